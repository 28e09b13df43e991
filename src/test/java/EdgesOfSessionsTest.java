import java.util.Arrays;

/** Part V at its edges: SEEN, the eight SESSIONS, their numbers, KRB-PRIV, KRB-SAFE, KRB-CRED; each method has its sentence. */
public final class EdgesOfSessionsTest {
    public static void main(String[] args) {
        versionsAndTypes();
        ticketsTimes();
        authenticatorsTime();
        subkeys();
        seenByName();
        seenForgets();
        seenAhead();
        seenKeepsThoseOfTheRightNamesAndTime();
        eightSessions();
        metInOrder();
        metByTimeAndMicro();
        joinedByKey();
        joinedAfterAnew();
        leftByItsAgent();
        numberOfAnEarlierReply();
        numbersWithoutReply();
        numberMissing();
        numbersGoRound();
        numbersOfRefused();
        sizesOfData();
        timestamps();
        timestampMissing();
        addresses();
        privInOrder();
        safeInOrder();
        checksumsBytes();
        handedInOrder();
        handedTimes();
        handedNames();
        handedToOneNotJoined();
        timesOfNought();
        Kit.finish();
    }

    private static int visit(Kit.House h, Forms.Pass pass, Forms.Proof proof) {
        return h.tape(Forms.visit(pass, proof, false)).x.serve(2);
    }

    /** Anna at http/www, in SESSION 0 that she joined; the KEY is KEY_A. */
    private static final class Visit {
        final Kit.House h = Kit.house();
        final long mine;
        long its = 0;

        Visit(int how) {
            h.agent(0, "anna:secret", 2);
            Forms.give(h, 0, Forms.wwwPass());
            h.x.present(0, 0, how);
            mine = new Kit.Node(Kit.opened(Kit.KEY_A, 11, h.node().down(4))).down(7).number();
            h.carry().x.serve(2);
            if (how == 1) {
                its = new Kit.Node(Kit.opened(Kit.KEY_A, 12, h.node().down(2))).down(3).number();
                h.carry().x.met(0);
            }
            h.x.joins(0, 0);
        }

        Forms.Data data(int side) {
            Forms.Data data = new Forms.Data();
            data.number = Kit.num(side == 0 ? mine : its);
            data.sender = Forms.address(side);
            return data;
        }
    }

    private static byte[] priv(Forms.Data data) {
        return data.priv(Kit.KEY_A);
    }

    /** "pvno: 3; msg-type: 40; .. tkt-vno: 39", of AP-REP, KRB-PRIV, KRB-SAFE and KRB-CRED -3 and -40. */
    private static void versionsAndTypes() {
        byte[] none = Kit.encrypted(17, Kit.NONE, Kit.NIL);
        for (int number : new int[] {Integer.MIN_VALUE, -5, 0, 4, 5, 6, 14, 15, 20, 21, 22, 261, Integer.MAX_VALUE}) {
            Visit v = new Visit(0);
            byte[] n = Kit.num(number);
            byte[] five = Kit.num(5);
            Forms.Pass pass = Forms.wwwPass();
            Kit.due("AP-REQ's pvno " + number, v.h.tape(Forms.apReq(n, Kit.num(14), Kit.flags(0), pass.der(), none)).x.serve(2),
                number == 5 ? -31 : -3);
            Kit.due("AP-REQ's msg-type " + number, v.h.tape(Forms.apReq(five, n, Kit.flags(0), pass.der(), none)).x.serve(2),
                number == 14 ? -31 : -40);
            pass.version = n;
            Kit.due("tkt-vno " + number, v.h.tape(Forms.apReq(pass.der(), none)).x.serve(2), number == 5 ? -31 : -39);
            Forms.Data data = v.data(1);
            Kit.due("KRB-PRIV's pvno " + number, v.h.tape(Forms.Data.priv(n, Kit.num(21), none)).x.receive(0, 1),
                number == 5 ? -31 : -3);
            Kit.due("KRB-PRIV's msg-type " + number, v.h.tape(Forms.Data.priv(five, n, none)).x.receive(0, 1),
                number == 21 ? -31 : -40);
            Kit.due("KRB-SAFE's pvno " + number, v.h.tape(data.safe(n, Kit.num(20), Kit.pair(1, Kit.NIL))).x.assured(0, 1),
                number == 5 ? -50 : -3);
            Kit.due("KRB-SAFE's msg-type " + number, v.h.tape(data.safe(five, n, Kit.pair(1, Kit.NIL))).x.assured(0, 1),
                number == 20 ? -50 : -40);
            Forms.Cred cred = new Forms.Cred();
            cred.pvno = n;
            Kit.due("KRB-CRED's pvno " + number, v.h.tape(cred.der(Kit.KEY_B)).x.handed(0, 0), number == 5 ? -31 : -3);
            cred.pvno = five;
            cred.type = n;
            Kit.due("KRB-CRED's msg-type " + number, v.h.tape(cred.der(Kit.KEY_B)).x.handed(0, 0), number == 22 ? -31 : -40);
            v.h.x.present(0, 0, 1);
            Kit.due("AP-REP's pvno " + number, v.h.tape(apRep(n, Kit.num(15), none)).x.met(0), number == 5 ? -31 : -3);
            v.h.x.present(0, 0, 1);
            Kit.due("AP-REP's msg-type " + number, v.h.tape(apRep(five, n, none)).x.met(0), number == 15 ? -31 : -40);
        }
    }

    private static byte[] apRep(byte[] pvno, byte[] type, byte[] sealed) {
        return Kit.app(15, Kit.seq(Kit.f(0, pvno), Kit.f(1, type), Kit.f(2, sealed)));
    }

    /** "starttime: 33; endtime: 32", as of the centre: more than 300 seconds after, at or before the CLOCK. */
    private static void ticketsTimes() {
        for (int off : new int[] {-100000, 0, 300, 301}) {
            Forms.Pass pass = Forms.wwwPass();
            pass.starttime = Kit.time(Kit.NOW + off);
            Kit.due("starttime " + off, visit(Kit.house(), pass, new Forms.Proof()), off > 300 ? -33 : 0);
            pass.starttime = null;
            pass.authtime = Kit.time(Kit.NOW + off);
            Kit.due("authtime " + off, visit(Kit.house(), pass, new Forms.Proof()), off > 300 ? -33 : 0);
        }
        for (int off : new int[] {-1, 0, 1}) {
            Forms.Pass pass = Forms.wwwPass();
            pass.endtime = Kit.time(Kit.NOW + off);
            Kit.due("endtime " + off, visit(Kit.house(), pass, new Forms.Proof()), off <= 0 ? -32 : 0);
        }
    }

    /** "ctime: 37": within 300 seconds of the CLOCK, at both its ends. */
    private static void authenticatorsTime() {
        for (int clock : new int[] {0, 300, Kit.NOW, 2000000000}) {
            for (int off : new int[] {-301, -300, 0, 300, 301}) {
                if (clock + off >= 0) {
                    Kit.House h = Kit.house();
                    h.x.clock(clock);
                    Forms.Pass pass = Forms.wwwPass();
                    pass.starttime = Kit.time(clock);
                    pass.endtime = Kit.time(clock + 1);
                    Forms.Proof proof = new Forms.Proof();
                    proof.ctime = Kit.time(clock + off);
                    Kit.due("ctime " + off + " at " + clock, visit(h, pass, proof), Math.abs(off) > 300 ? -37 : 0);
                }
            }
        }
    }

    /** "A subkey not of 17 or 18, or not as long: 14"; a good one is the KEY, of whatever type. */
    private static void subkeys() {
        for (int type : new int[] {-17, 0, 16, 17, 18, 19}) {
            for (int size : new int[] {0, 15, 16, 17, 31, 32, 33}) {
                boolean good = type == 17 && size == 16 || type == 18 && size == 32;
                byte[] bytes = Arrays.copyOf(Kit.KEY_B, size);
                Forms.Proof proof = new Forms.Proof();
                proof.subkey = Kit.pair(type, bytes);
                Kit.House h = Kit.house();
                Kit.due("subkey " + type + " of " + size, visit(h, Forms.wwwPass(), proof), good ? 0 : -14);
                if (good) {
                    Kit.due("is the KEY", h.tape(new Forms.Data().priv(bytes)).x.receive(0, 1), 5);
                }
                Forms.Pass pass = Forms.wwwPass();
                pass.key = Kit.pair(type, bytes);
                byte[] sealed = Kit.sealed(good ? bytes : Kit.KEY_A, 11, Kit.NONE, new Forms.Proof().text());
                Kit.due("ticket's key " + type + " of " + size, h.tape(Forms.apReq(pass.der(), sealed)).x.serve(2),
                    good ? -34 : -14);
            }
        }
    }

    /** SEEN: "cname's parts, ctime, cusec": all three, and name-types are of no matter. */
    private static void seenByName() {
        seenTwice(Kit.name(1, "anna"), Kit.name(1, "otto"), Kit.name(1, "bnna"), Kit.name(1, "annb"));
        seenTwice(Kit.name(1, "an", ""), Kit.name(1, "", "an"), Kit.name(1, "a", "n"), Kit.name(1, "anna"));
        seenTwice(Kit.name(1), Kit.name(1, ""), Kit.name(1, "a"), Kit.name(1, "a".repeat(38)), Kit.name(1, "a".repeat(37) + "b"));
        Kit.House h = Kit.house();
        Forms.Proof proof = new Forms.Proof();
        Kit.due("first", visit(h, Forms.wwwPass(), proof), 0);
        proof.cname = Kit.name(99, "anna");
        Kit.due("another name-type", visit(h, Forms.wwwPass(), proof), -34);
        proof.cusec = Kit.num(1);
        Kit.due("another cusec", visit(h, Forms.wwwPass(), proof), 1);
        proof.ctime = Kit.time(Kit.NOW - 1);
        Kit.due("another ctime", visit(h, Forms.wwwPass(), proof), 2);
        Kit.due("told twice", visit(h, Forms.wwwPass(), proof), -34);
    }

    private static void seenTwice(byte[]... names) {
        Kit.House h = Kit.house();
        for (int round = 0; round < 2; round++) {
            for (int k = 0; k < names.length; k++) {
                Forms.Pass pass = Forms.wwwPass();
                pass.cname = names[k];
                Forms.Proof proof = new Forms.Proof();
                proof.cname = names[k];
                Kit.due("name " + k + ", round " + round, visit(h, pass, proof), round == 0 ? k : -34);
            }
        }
    }

    /** "One whose ctime is more than 300 seconds before the CLOCK is forgotten when another one comes": and the others are not. */
    private static void seenForgets() {
        String[] names = {"annabella", "otto", "xaver", "anna", "maximilian"};
        int[] times = {0, 2, 0, 1, 2};
        Kit.House h = Kit.house();
        for (int k = 0; k < names.length; k++) {
            Kit.due("first", stranger(h, names[k], times[k]), 0);
            h.x.ends(0);
        }
        h.x.clock(Kit.NOW + 301);
        Kit.due("another one comes", stranger(h, "new", 301), 0);
        h.x.ends(0);
        h.x.clock(Kit.NOW);
        for (int k = 0; k < names.length; k++) {
            Kit.due(names[k] + (times[k] == 0 ? " was forgotten" : " was not"), stranger(h, names[k], times[k]),
                times[k] == 0 ? 0 : -34);
            h.x.ends(0);
        }
        // Without another one they are kept, however late it is.
        h = Kit.house();
        Kit.due("first", stranger(h, "anna", 0), 0);
        h.x.clock(2000000000);
        h.x.serve(2);
        h.x.clock(Kit.NOW);
        Kit.due("kept", stranger(h, "anna", 0), -34);
    }

    private static int stranger(Kit.House h, String name, int time) {
        Forms.Pass pass = Forms.wwwPass();
        pass.cname = Kit.name(1, name);
        Forms.Proof proof = new Forms.Proof();
        proof.cname = pass.cname;
        proof.ctime = Kit.time(Kit.NOW + time);
        return visit(h, pass, proof);
    }

    /** One whose ctime is ahead of the CLOCK is kept as long as it could come again. */
    private static void seenAhead() {
        Kit.House h = Kit.house();
        h.x.room(1);
        Kit.due("300 ahead", stranger(h, "anna", 300), 0);
        h.x.clock(Kit.NOW + 600);
        Kit.due("300 behind: told twice", stranger(h, "anna", 300), -34);
        Kit.due("no room yet", stranger(h, "otto", 600), -29);
        h.x.clock(Kit.NOW + 601);
        Kit.due("301 behind", stranger(h, "anna", 300), -37);
        Kit.due("room now", stranger(h, "otto", 600), 1);
    }

    /** SEEN: "that they opened and found of the right names and time": whatever is refused before is not kept, behind it is. */
    private static void seenKeepsThoseOfTheRightNamesAndTime() {
        Kit.House h = Kit.house();
        h.x.room(1);
        Forms.Proof proof = new Forms.Proof();
        Forms.Pass pass = Forms.wwwPass();
        Kit.due("not opened", h.tape(Forms.apReq(pass.der(), Kit.sealed(Kit.KEY_A, 7, Kit.NONE, proof.text()))).x.serve(2), -31);
        proof.cname = Kit.name(1, "otto");
        Kit.due("another name", visit(h, pass, proof), -36);
        proof.cname = Kit.ANNA_NAME;
        proof.ctime = Kit.time(Kit.NOW + 301);
        Kit.due("another time", visit(h, pass, proof), -37);
        proof.ctime = Kit.time(Kit.NOW);
        pass.endtime = Kit.time(Kit.NOW);
        Kit.due("there was room for it, though it is refused", visit(h, pass, proof), -32);
        Kit.due("and it is there", visit(h, Forms.wwwPass(), proof), -34);
        proof.cusec = Kit.num(1);
        Kit.due("there is no room for another", visit(h, Forms.wwwPass(), proof), -29);
        h.x.room(2);
        Kit.due("which was not kept", visit(h, Forms.wwwPass(), proof), 0);
    }

    /** "No SESSION is free (0 .. 7): 29." */
    private static void eightSessions() {
        for (int gone = 0; gone < 8; gone++) {
            Kit.House h = Kit.house();
            h.agent(0, "anna:secret", 2);
            Forms.give(h, 0, Forms.wwwPass());
            for (int n = 0; n < 8; n++) {
                h.x.present(0, 0, 0);
                Kit.due("SESSION " + n, h.carry().x.serve(2), n);
            }
            h.x.present(0, 0, 0);
            Kit.due("no ninth", h.carry().x.serve(2), -29);
            Kit.same("its KRB-ERROR", h.out(), Kit.error(Kit.NOW, 29, null, null, Kit.WWW_NAME, null));
            Kit.due("ends", h.x.ends(gone), true);
            Kit.due("ends once", h.x.ends(gone), false);
            Kit.due("nothing is sent in it", h.tape("x").x.send(gone, 1), -1);
            h.x.present(0, 0, 0);
            Kit.due("the one that is free", h.carry().x.serve(2), gone);
            h.x.present(0, 0, 0);
            Kit.due("no further one", h.carry().x.serve(2), -29);
        }
        Kit.House h = Kit.house();
        for (int n : new int[] {Integer.MIN_VALUE, -1, 0, 7, 8, Integer.MAX_VALUE}) {
            Kit.due("ends " + n, h.x.ends(n), false);
        }
    }

    /** met: "BROKEN: -60, pvno, msg-type: -3, -40; not opened: -31, -60; ctime or cusec others: -46. Then 0." */
    private static void metInOrder() {
        byte[] wrong = Kit.app(27, Kit.seq(Kit.f(0, Kit.time(Kit.NOW + 1)), Kit.f(1, Kit.num(0))));
        byte[] right = Kit.app(27, Kit.seq(Kit.f(0, Kit.time(Kit.NOW)), Kit.f(1, Kit.num(0)), Kit.f(3, Kit.num(4294967295L))));
        byte[] none = Kit.app(26, Kit.seq(Kit.f(0, Kit.time(Kit.NOW + 1)), Kit.f(1, Kit.num(0))));
        byte[][] steps = {Kit.cat(apRep(Kit.num(4), Kit.num(14), Kit.sealed(Kit.KEY_A, 11, Kit.NONE, none)), Kit.bytes(0)),
            apRep(Kit.num(4), Kit.num(14), Kit.sealed(Kit.KEY_A, 11, Kit.NONE, none)),
            apRep(Kit.num(5), Kit.num(14), Kit.sealed(Kit.KEY_A, 11, Kit.NONE, none)),
            apRep(Kit.num(5), Kit.num(15), Kit.sealed(Kit.KEY_A, 11, Kit.NONE, none)),
            apRep(Kit.num(5), Kit.num(15), Kit.sealed(Kit.KEY_A, 12, Kit.NONE, none)),
            apRep(Kit.num(5), Kit.num(15), Kit.sealed(Kit.KEY_A, 12, Kit.NONE, wrong)),
            apRep(Kit.num(5), Kit.num(15), Kit.sealed(Kit.KEY_A, 12, Kit.NONE, right))};
        int[] codes = {-60, -3, -40, -31, -60, -46, 0};
        for (int k = 0; k < steps.length; k++) {
            Kit.House h = Kit.house();
            h.agent(0, "anna:secret", 2);
            Forms.give(h, 0, Forms.wwwPass());
            h.x.present(0, 0, 1);
            Kit.due("step " + k, h.tape(steps[k]).x.met(0), codes[k]);
            Kit.due("once", h.tape(steps[k]).x.met(0), -3);
        }
    }

    private static void metByTimeAndMicro() {
        for (int time = -1; time <= 1; time++) {
            for (int micro = 0; micro <= 2; micro++) {
                Kit.House h = Kit.house();
                h.agent(0, "anna:secret", 2);
                Forms.give(h, 0, Forms.wwwPass());
                h.x.present(0, 0, 0);
                h.x.present(0, 0, 1);
                h.x.clock(Kit.NOW + 9);
                byte[] told = Kit.app(27, Kit.seq(Kit.f(0, Kit.time(Kit.NOW + time)), Kit.f(1, Kit.num(micro))));
                int want = time == 0 && micro == 1 ? 0 : -46;
                Kit.due("ctime " + time + ", cusec " + micro,
                    h.tape(apRep(Kit.num(5), Kit.num(15), Kit.sealed(Kit.KEY_A, 12, Kit.NONE, told))).x.met(0), want);
            }
        }
    }

    /** joins: "the ticket's key by which the SESSION began": of as many bytes, and all of them. */
    private static void joinedByKey() {
        byte[] half = Arrays.copyOf(Kit.KEY_A, 16);
        byte[][] keys = {Kit.KEY_A, half, Kit.KEY_B};
        for (byte[] mine : keys) {
            for (byte[] its : keys) {
                Kit.House h = Kit.house();
                h.agent(0, "anna:secret", 2);
                Forms.Pass pass = Forms.wwwPass();
                pass.session = mine;
                Kit.due("a TICKET", Forms.give(h, 0, pass), 0);
                h.x.present(0, 0, 0);
                Forms.Proof proof = new Forms.Proof();
                proof.number = new Kit.Node(Kit.opened(mine, 11, h.node().down(4))).down(7).whole;
                pass.session = its;
                Kit.due("serve", h.tape(Forms.visit(pass, proof, false)).x.serve(2), 0);
                Kit.due("joins", h.x.joins(0, 0), mine == its);
                Kit.due("side 0", h.tape("x").x.send(0, 0) > 0, mine == its);
            }
        }
    }

    /** agent: "is that one now, with nothing else": not even a SESSION that told no number is its own. */
    private static void joinedAfterAnew() {
        Kit.House h = Kit.house();
        h.agent(0, "anna:secret", 2);
        Forms.give(h, 0, Forms.wwwPass());
        h.x.present(0, 0, 0);
        Kit.due("serve", visit(h, Forms.wwwPass(), new Forms.Proof()), 0);
        Kit.due("the AP-REQ has a number, the SESSION none", h.x.joins(0, 0), false);
        h.agent(0, "anna:secret", 2);
        Kit.due("no AP-REQ, no number", h.x.joins(0, 0), false);
    }

    /** agent: "SESSIONS that it joined are joined no more": all of its own, and none of another's. */
    private static void leftByItsAgent() {
        Kit.House h = Kit.house();
        h.agent(0, "anna:secret", 2);
        h.agent(1, "anna:secret", 2);
        Forms.give(h, 0, Forms.wwwPass());
        Forms.give(h, 1, Forms.wwwPass());
        // Their authenticators would be the same, but for their clocks.
        h.x.shift(1, 1);
        for (int n = 0; n < 8; n++) {
            h.x.present(n % 3 == 0 ? 1 : 0, 0, 0);
            Kit.due("serve", h.carry().x.serve(2), n);
            Kit.due("joins", h.x.joins(n, n % 3 == 0 ? 1 : 0), true);
        }
        Kit.due("AGENT 2 is new", h.agent(2, "anna:secret", 2), true);
        for (int n = 0; n < 8; n++) {
            Kit.due("that is of no matter to SESSION " + n, h.tape("x").x.send(n, 0) > 0, true);
        }
        Kit.due("AGENT 1 is another one", h.agent(1, "otto:x", 1), true);
        for (int n = 0; n < 8; n++) {
            Kit.due("side 0 of SESSION " + n, h.tape("x").x.send(n, 0) > 0, n % 3 != 0);
            Kit.due("side 0 of SESSION " + n, h.tape("x").x.assure(n, 0) > 0, n % 3 != 0);
            Kit.due("takes nothing", h.x.receive(n, 0), n % 3 != 0 ? -60 : -1);
            Kit.due("nor so", h.x.assured(n, 0), n % 3 != 0 ? -60 : -1);
            Kit.due("nor hands over", h.x.hand(n, 0) > 0, n % 3 != 0);
            Kit.due("side 1 of SESSION " + n, h.tape("x").x.send(n, 1) > 0, true);
        }
    }

    /** "Knows the other's number if it took AP-REP before it joined (else 0)": not that of an AP-REP to an earlier AP-REQ. */
    private static void numberOfAnEarlierReply() {
        Visit v = new Visit(1);
        Kit.due("there is one", v.its > 0, true);
        v.h.x.present(0, 0, 1);
        v.h.carry().x.serve(2);
        Kit.due("joins before it met", v.h.x.joins(1, 0), true);
        Kit.due("the number of the earlier one is not due",
            v.h.tape(priv(v.data(1))).x.receive(1, 0), -42);
        v.its = 0;
        Kit.due("but 0 is", v.h.tape(priv(v.data(1))).x.receive(1, 0), 5);
    }

    /** "(else 0, also if not mutual)": both sides' 0 are the same, so that they understand one another. */
    private static void numbersWithoutReply() {
        Visit v = new Visit(0);
        v.h.tape("from side 1").x.send(0, 1);
        Kit.due("not mutual", v.h.carry().x.receive(0, 0), 11);
        v.h.tape("again").x.assure(0, 1);
        Kit.due("not mutual", v.h.carry().x.assured(0, 0), 5);
        v.h.tape("from side 0").x.send(0, 0);
        Kit.due("not mutual", v.h.carry().x.receive(0, 1), 11);
        // Mutual, but the AP-REP has no number: forged, for the service always tells one then.
        Kit.House h = Kit.house();
        h.agent(0, "anna:secret", 2);
        Forms.give(h, 0, Forms.wwwPass());
        h.x.present(0, 0, 1);
        h.carry().x.serve(2);
        byte[] told = Kit.app(27, Kit.seq(Kit.f(0, Kit.time(Kit.NOW)), Kit.f(1, Kit.num(0))));
        Kit.due("met", h.tape(apRep(Kit.num(5), Kit.num(15), Kit.sealed(Kit.KEY_A, 12, Kit.NONE, told))).x.met(0), 0);
        h.x.joins(0, 0);
        v.its = 0;
        Kit.due("no number is 0", h.tape(priv(v.data(1))).x.receive(0, 0), 5);
    }

    /** "seq-number not the next one due: -42 (missing: -42)": also where 0 is due. */
    private static void numberMissing() {
        for (int how = 0; how < 2; how++) {
            for (int side = 0; side < 2; side++) {
                Visit v = new Visit(how);
                Forms.Data data = v.data(1 - side);
                data.number = null;
                Kit.due("KRB-PRIV to side " + side, v.h.tape(priv(data)).x.receive(0, side), -42);
                Kit.due("KRB-SAFE to side " + side, v.h.tape(data.safe(Kit.KEY_A)).x.assured(0, side), -42);
                data = v.data(1 - side);
                Kit.due("what is due", v.h.tape(priv(data)).x.receive(0, side), 5);
            }
        }
    }

    /** "(2^32 is 0)": also of the other's number that side 0 waits for. */
    private static void numbersGoRound() {
        for (long first : new long[] {4294967294L, 4294967295L, 2147483647L, 2147483648L}) {
            Kit.House h = Kit.house();
            h.agent(0, "anna:secret", 2);
            Forms.give(h, 0, Forms.wwwPass());
            h.x.present(0, 0, 1);
            h.carry().x.serve(2);
            byte[] told = Kit.app(27, Kit.seq(Kit.f(0, Kit.time(Kit.NOW)), Kit.f(1, Kit.num(0)), Kit.f(3, Kit.num(first))));
            Kit.due("met", h.tape(apRep(Kit.num(5), Kit.num(15), Kit.sealed(Kit.KEY_A, 12, Kit.NONE, told))).x.met(0), 0);
            Kit.due("joins", h.x.joins(0, 0), true);
            for (int k = 0; k < 4; k++) {
                Forms.Data data = new Forms.Data();
                data.sender = Forms.address(1);
                for (long off = -1; off <= 1; off += 2) {
                    data.number = Kit.num(first + k + off & 0xFFFFFFFFL);
                    Kit.due("one off", h.tape(priv(data)).x.receive(0, 0), -42);
                }
                data.number = Kit.num(first + k & 0xFFFFFFFFL);
                Kit.due("number " + k + " from " + first, h.tape(priv(data)).x.receive(0, 0), 5);
            }
            Forms.Proof proof = new Forms.Proof();
            proof.number = Kit.num(first);
            proof.cusec = Kit.num(9);
            Kit.due("serve", visit(h, Forms.wwwPass(), proof), 1);
            for (int k = 0; k < 3; k++) {
                Forms.Data data = new Forms.Data();
                data.number = Kit.num(first + k & 0xFFFFFFFFL);
                Kit.due("side 1, number " + k + " from " + first, h.tape(data.safe(Kit.KEY_A)).x.assured(1, 1), 5);
            }
        }
    }

    /** "Goes up by one with each message": not with one that is refused, on either side. */
    private static void numbersOfRefused() {
        Visit v = new Visit(1);
        Forms.Data late = v.data(0);
        late.timestamp = Kit.time(Kit.NOW + 301);
        Forms.Data astray = v.data(0);
        astray.sender = Forms.address(1);
        Forms.Data next = v.data(0);
        next.number = Kit.num(v.mine + 1);
        Kit.due("BROKEN", v.h.tape("x").x.receive(0, 1), -60);
        Kit.due("not opened", v.h.tape(v.data(0).priv(Kit.KEY_B)).x.receive(0, 1), -31);
        Kit.due("late", v.h.tape(priv(late)).x.receive(0, 1), -37);
        Kit.due("astray", v.h.tape(priv(astray)).x.receive(0, 1), -38);
        Kit.due("the next but one", v.h.tape(priv(next)).x.receive(0, 1), -42);
        Kit.due("assured: late", v.h.tape(late.safe(Kit.KEY_A)).x.assured(0, 1), -37);
        Kit.due("assured: the next but one", v.h.tape(next.safe(Kit.KEY_A)).x.assured(0, 1), -42);
        Kit.due("too long to send", v.h.tape(new byte[1001]).x.send(0, 0), -1);
        Kit.due("too long to assure", v.h.tape(new byte[1001]).x.assure(0, 0), -1);
        Kit.due("no side", v.h.tape("x").x.send(0, 2), -1);
        v.h.tape("first").x.assure(0, 0);
        Kit.due("the first is still due", v.h.carry().x.assured(0, 1), 5);
        v.h.tape("second").x.send(0, 0);
        Kit.due("then the second", v.h.carry().x.receive(0, 1), 6);
    }

    /** "The TAPE (up to 1000 bytes)": 0, 999, 1000 and 1001, from both sides, of both kinds. */
    private static void sizesOfData() {
        for (int size : new int[] {0, 1, 999, 1000, 1001, 4000}) {
            for (int side = 0; side < 2; side++) {
                Visit v = new Visit(1);
                byte[] data = new byte[size];
                Arrays.fill(data, (byte) 200);
                Kit.due("send of " + size, v.h.tape(data).x.send(0, side) > size, size <= 1000);
                Kit.due("receive of " + size, v.h.carry().x.receive(0, 1 - side), size <= 1000 ? size : -60);
                v = new Visit(1);
                Kit.due("assure of " + size, v.h.tape(data).x.assure(0, side) > size, size <= 1000);
                Kit.due("assured of " + size, v.h.carry().x.assured(0, 1 - side), size <= 1000 ? size : -60);
            }
        }
        // What is taken may be longer than what may be sent: as long as the TAPE allows.
        Visit v = new Visit(0);
        Forms.Data data = v.data(0);
        data.data = Kit.oct(new byte[3000]);
        int more = 4000 - data.safe(Kit.KEY_A).length;
        data.data = Kit.oct(new byte[3000 + more]);
        byte[] message = data.safe(Kit.KEY_A);
        Kit.due("4000 bytes", message.length, 4000);
        Kit.due("are taken", v.h.tape(message).x.assured(0, 1), 3000 + more);
        Kit.due("and come to the OUT", v.h.x.out(-1), 3000 + more);
    }

    /** "More than 300 seconds off its clock: -37": side 0's with its SHIFT, side 1's the CLOCK. */
    private static void timestamps() {
        for (int shift : new int[] {-100000, 0, 100000}) {
            for (int off : new int[] {-301, -300, 300, 301}) {
                for (int side = 0; side < 2; side++) {
                    Visit v = new Visit(0);
                    v.h.x.shift(0, shift);
                    Forms.Data data = v.data(1 - side);
                    data.timestamp = Kit.time(Kit.NOW + (side == 0 ? shift : 0) + off);
                    int want = Math.abs(off) > 300 ? -37 : 5;
                    Kit.due("KRB-SAFE to side " + side + ", off " + off, v.h.tape(data.safe(Kit.KEY_A)).x.assured(0, side), want);
                    v = new Visit(0);
                    v.h.x.shift(0, shift);
                    data.number = v.data(1 - side).number;
                    Kit.due("KRB-PRIV to side " + side + ", off " + off, v.h.tape(priv(data)).x.receive(0, side), want);
                }
            }
        }
    }

    /** "timestamp missing: -37": also when the clock is at 0, where a timestamp of 0 is a good one. */
    private static void timestampMissing() {
        for (int clock : new int[] {0, 1, 300, Kit.NOW}) {
            for (int side = 0; side < 2; side++) {
                Visit v = new Visit(0);
                v.h.x.clock(clock);
                Forms.Data data = v.data(1 - side);
                data.timestamp = null;
                Kit.due("KRB-PRIV at " + clock, v.h.tape(priv(data)).x.receive(0, side), -37);
                Kit.due("KRB-SAFE at " + clock, v.h.tape(data.safe(Kit.KEY_A)).x.assured(0, side), -37);
                data.timestamp = Kit.time(0);
                Kit.due("KRB-PRIV of 0 at " + clock, v.h.tape(priv(data)).x.receive(0, side), clock > 300 ? -37 : 5);
            }
            Visit v = new Visit(0);
            v.h.x.clock(clock);
            Forms.Cred cred = new Forms.Cred();
            cred.timestamp = null;
            Kit.due("KRB-CRED at " + clock, v.h.tape(cred.der(Kit.KEY_A)).x.handed(0, 0), -37);
            cred.timestamp = Kit.time(0);
            Kit.due("KRB-CRED of 0 at " + clock, v.h.tape(cred.der(Kit.KEY_A)).x.handed(0, 0), clock > 300 ? -37 : 1);
        }
    }

    /** "s-address other than the other side's: -38": its type, its length, each of its bytes. */
    private static void addresses() {
        for (int side = 0; side < 2; side++) {
            byte[][] others = {Kit.pair(2, Kit.bytes(11, 0, 0, side)), Kit.pair(2, Kit.bytes(10, 1, 0, side)),
                Kit.pair(2, Kit.bytes(10, 0, 1, side)), Kit.pair(2, Kit.bytes(10, 0, 0, 1 - side)),
                Kit.pair(2, Kit.bytes(10, 0, 0, 2 + side)), Kit.pair(2, Kit.bytes(10, 0, 0, 128 + side)),
                Kit.pair(2, Kit.bytes(10, 0, 0)), Kit.pair(2, Kit.bytes(10, 0, 0, side, 0)), Kit.pair(2, Kit.NIL),
                Kit.pair(1, Kit.bytes(10, 0, 0, side)), Kit.pair(3, Kit.bytes(10, 0, 0, side)),
                Kit.pair(-2, Kit.bytes(10, 0, 0, side)), Kit.pair(258, Kit.bytes(10, 0, 0, side))};
            Visit v = new Visit(0);
            Forms.Data data = v.data(side);
            for (byte[] other : others) {
                data.sender = other;
                Kit.due("KRB-PRIV", v.h.tape(priv(data)).x.receive(0, 1 - side), -38);
                Kit.due("KRB-SAFE", v.h.tape(data.safe(Kit.KEY_A)).x.assured(0, 1 - side), -38);
            }
            data.sender = Forms.address(side);
            data.receiver = Kit.pair(99, Kit.NIL);
            Kit.due("r-address is not looked at", v.h.tape(priv(data)).x.receive(0, 1 - side), 5);
        }
    }

    /** KRB-PRIV: all is wrong, and one thing less at each step. */
    private static void privInOrder() {
        int[] codes = {-60, -3, -40, -31, -60, -37, -38, -42, 5};
        Visit v = new Visit(0);
        for (int done = 0; done < codes.length; done++) {
            Forms.Data data = v.data(0);
            data.timestamp = done > 5 ? data.timestamp : Kit.time(Kit.NOW + 301);
            data.sender = done > 6 ? data.sender : Forms.address(1);
            data.number = done > 7 ? data.number : Kit.num(v.mine + 1);
            byte[] sealed = Kit.sealed(Kit.KEY_A, done > 3 ? 13 : 12, Kit.NONE, Kit.app(done > 4 ? 28 : 27, data.der()));
            byte[] message = Forms.Data.priv(Kit.num(done > 1 ? 5 : 4), Kit.num(done > 2 ? 21 : 20), sealed);
            byte[] whole = done > 0 ? message : Kit.cat(message, Kit.bytes(0));
            Kit.due("step " + done, v.h.tape(whole).x.receive(0, 1), codes[done]);
        }
    }

    /** KRB-SAFE: the same. */
    private static void safeInOrder() {
        int[] codes = {-60, -3, -40, -50, -41, -37, -38, -42, 5};
        Visit v = new Visit(0);
        for (int done = 0; done < codes.length; done++) {
            Forms.Data data = v.data(0);
            data.timestamp = done > 5 ? data.timestamp : Kit.time(Kit.NOW - 301);
            data.sender = done > 6 ? data.sender : Forms.address(1);
            data.number = done > 7 ? data.number : Kit.num(v.mine + 1);
            byte[] sum = Kit.pair(done > 3 ? 16 : 15, Kit.sum(Kit.KEY_A, done > 4 ? 15 : 14, data.der()));
            byte[] message = data.safe(Kit.num(done > 1 ? 5 : 4), Kit.num(done > 2 ? 20 : 21), sum);
            byte[] whole = done > 0 ? message : Kit.cat(message, Kit.bytes(0));
            Kit.due("step " + done, v.h.tape(whole).x.assured(0, 1), codes[done]);
        }
    }

    /** "cksum of another type: -50, another one: -41": each of its bytes, and no more and no fewer. */
    private static void checksumsBytes() {
        for (byte[] key : new byte[][] {Kit.KEY_A, Kit.KEY_B}) {
            Forms.Pass pass = Forms.wwwPass();
            pass.session = key;
            Kit.House h = Kit.house();
            Kit.due("serve", visit(h, pass, new Forms.Proof()), 0);
            Forms.Data data = new Forms.Data();
            byte[] sum = Kit.sum(key, 15, data.der());
            int type = Kit.typeOf(key) - 2;
            for (int i = 0; i < 12; i++) {
                byte[] other = sum.clone();
                other[i] ^= (byte) (1 << (i % 8));
                Kit.due("byte " + i, h.tape(data.safe(Kit.num(5), Kit.num(20), Kit.pair(type, other))).x.assured(0, 1), -41);
            }
            for (int size : new int[] {0, 11, 13, 20}) {
                byte[] other = Arrays.copyOf(sum, size);
                Kit.due(size + " bytes", h.tape(data.safe(Kit.num(5), Kit.num(20), Kit.pair(type, other))).x.assured(0, 1), -41);
            }
            for (int wrong : new int[] {0, 14, 31 - type, 17, 18, -type, Integer.MAX_VALUE}) {
                Kit.due("type " + wrong, h.tape(data.safe(Kit.num(5), Kit.num(20), Kit.pair(wrong, sum))).x.assured(0, 1), -50);
            }
            Kit.due("as it is", h.tape(data.safe(key)).x.assured(0, 1), 5);
        }
    }

    /** KRB-CRED: all is wrong, and one thing less at each step; at the end no TICKET is free. */
    private static void handedInOrder() {
        int[] codes = {-60, -60, -3, -40, -31, -60, -60, -60, -37, -60, -14, -2};
        for (int done = 0; done < codes.length; done++) {
            Visit v = new Visit(0);
            v.h.x.hand(0, 0);
            for (int w = 1; w < 8; w++) {
                Kit.due("filled", v.h.carry().x.handed(0, 0), w);
            }
            byte[] ticket = new Forms.Pass().der();
            Forms.Cred cred = new Forms.Cred();
            cred.tickets = done > 1 ? Kit.seq(ticket) : Kit.seq(ticket, ticket);
            cred.pvno = Kit.num(done > 2 ? 5 : 4);
            cred.type = Kit.num(done > 3 ? 22 : 21);
            cred.part = done > 5 ? 29 : 28;
            cred.pname = done > 9 ? Kit.ANNA_NAME : done > 7 ? Kit.name(1, "x".repeat(39)) : null;
            cred.timestamp = Kit.time(done > 8 ? Kit.NOW : Kit.NOW + 301);
            cred.key = done > 10 ? Kit.key(Kit.KEY_A) : Kit.pair(18, new byte[31]);
            cred.infos = done > 6 ? null : Kit.seq(cred.info(), cred.info());
            byte[] message = cred.der(done > 4 ? Kit.KEY_A : Kit.KEY_B);
            byte[] whole = done > 0 ? message : Kit.cat(message, Kit.bytes(0));
            Kit.due("step " + done, v.h.tape(whole).x.handed(0, 0), codes[done]);
            v.h.x.drop(0, 3);
            Kit.due("with a free TICKET", v.h.tape(whole).x.handed(0, 0), done == 11 ? 3 : codes[done]);
        }
    }

    /** "More than 300 seconds off the CLOCK: -37", whatever SHIFT the AGENT has that takes it. */
    private static void handedTimes() {
        for (int off : new int[] {-301, -300, 0, 300, 301}) {
            for (int shift : new int[] {-100000, 0, 100000}) {
                Visit v = new Visit(0);
                v.h.x.shift(0, shift);
                Forms.Cred cred = new Forms.Cred();
                cred.timestamp = Kit.time(Kit.NOW + off);
                Kit.due("off " + off, v.h.tape(cred.der(Kit.KEY_A)).x.handed(0, 0), Math.abs(off) > 300 ? -37 : 1);
            }
        }
        // The one that hands over tells its own clock.
        Visit v = new Visit(0);
        v.h.x.shift(0, 301);
        v.h.x.hand(0, 0);
        Kit.due("its clock is off", v.h.carry().x.handed(0, 0), -37);
        v.h.x.shift(0, 300);
        v.h.x.hand(0, 0);
        Kit.due("just in time", v.h.carry().x.handed(0, 0), 1);
    }

    /** "pname's parts above 40 bytes: -60": with their tags and lengths. */
    private static void handedNames() {
        byte[][] names = {Kit.name(1), Kit.name(-9, "", ""), Kit.name(1, "x".repeat(38)), Kit.name(1, "x".repeat(39)),
            Kit.name(1, "x".repeat(18), "y".repeat(18)), Kit.name(1, "x".repeat(18), "y".repeat(19)), Kit.name(1, "x".repeat(130))};
        boolean[] good = {true, true, true, false, true, false, false};
        for (int k = 0; k < names.length; k++) {
            Visit v = new Visit(0);
            Forms.Cred cred = new Forms.Cred();
            cred.pname = names[k];
            Kit.due("name " + k, v.h.tape(cred.der(Kit.KEY_A)).x.handed(0, 0), good[k] ? 1 : -60);
            if (good[k]) {
                v.h.x.present(0, 1, 0);
                Kit.Node proof = new Kit.Node(Kit.opened(Kit.KEY_B, 11, v.h.node().down(4)));
                Kit.same("its name", proof.down(2).whole, names[k]);
                v.h.x.hand(0, 1);
                Kit.Node part = new Kit.Node(Kit.opened(Kit.KEY_A, 14, v.h.node().down(3)));
                Kit.same("its name", part.down(0).parts.get(0).down(2).whole, names[k]);
            }
        }
    }

    /** handed: "for side 1 of a SESSION": which needs no one who joined it. */
    private static void handedToOneNotJoined() {
        Kit.House h = Kit.house();
        Kit.due("serve", visit(h, Forms.wwwPass(), new Forms.Proof()), 0);
        h.agent(3, "otto:x", 1);
        Kit.due("handed", h.tape(new Forms.Cred().der(Kit.KEY_A)).x.handed(0, 3), 0);
        Kit.due("hand is side 0's", h.x.hand(0, 0), -1);
        for (int n : new int[] {Integer.MIN_VALUE, -1, 1, 7, 8, Integer.MAX_VALUE}) {
            Kit.due("SESSION " + n, h.tape(new Forms.Cred().der(Kit.KEY_A)).x.handed(n, 3), -1);
        }
        for (int a : new int[] {Integer.MIN_VALUE, -1, 0, 2, 4, Integer.MAX_VALUE}) {
            Kit.due("AGENT " + a, h.tape(new Forms.Cred().der(Kit.KEY_A)).x.handed(0, a), -1);
        }
    }

    /** 0 of 1970 is a time that a ticket may have: "starttime (if the reply told it) .. renew-till (if so)". */
    private static void timesOfNought() {
        Visit v = new Visit(0);
        v.h.x.clock(0);
        v.h.request(0, 0, 0, "http/www", 0, 4, 36000);
        Forms.Reply reply = new Forms.Reply();
        reply.nonce = v.h.node().down(4, 7).whole;
        reply.sname = Kit.WWW_NAME;
        reply.ticket = Forms.wwwPass().der();
        reply.authtime = Kit.time(0);
        reply.starttime = Kit.time(0);
        reply.endtime = Kit.time(0);
        reply.renewTill = Kit.time(0);
        Kit.due("take", v.h.tape(reply.der()).x.take(0), 1);
        for (int what = 1; what <= 4; what++) {
            Kit.due("ticket " + what, v.h.x.ticket(0, 1, what), 0);
        }
        v.h.x.hand(0, 1);
        Kit.Node info = new Kit.Node(Kit.opened(Kit.KEY_A, 14, v.h.node().down(3))).down(0).parts.get(0);
        for (int field = 4; field <= 7; field++) {
            Kit.same("field " + field, info.down(field).whole, Kit.time(0));
        }
        Kit.due("handed", v.h.carry().x.handed(0, 0), 2);
        for (int what = 1; what <= 4; what++) {
            Kit.due("ticket " + what, v.h.x.ticket(0, 2, what), 0);
        }
    }
}
