import java.time.LocalDate;
import java.util.ArrayList;
import java.util.Arrays;
import java.util.List;

/** Part I at its edges: the TAPE, the OUT, the CLOCK, times, sealing, the COINS; each method has its sentence before it. */
public final class EdgesOfBytesTest {
    public static void main(String[] args) {
        tapeIsTaken();
        tapeIsNotTaken();
        outStays();
        carryOfNothing();
        outIsWithoutSign();
        carryChanges();
        carryAtFourThousand();
        clockRefused();
        yearsWritten();
        timesReadAndWritten();
        noDigits();
        lengthsRead();
        lengthsWritten();
        belowTwentyEight();
        everyByteOfTheMac();
        labelOfAnotherKey();
        coinsOfHighRows();
        coinsOfRefusedCalls();
        lastCall();
        Kit.finish();
    }

    /** Anna, with a TICKET for http/www whose key is KEY_A, in SESSION 0 that she joined. */
    private static Kit.House visiting() {
        Kit.House h = Kit.house();
        h.agent(0, "anna:secret", 2);
        Forms.give(h, 0, Forms.wwwPass());
        h.x.present(0, 0, 0);
        h.carry().x.serve(2);
        h.x.joins(0, 0);
        return h;
    }

    private interface Call {
        void on(Kit.House h);
    }

    private static void dueTape(String what, String text, int left, Call call) {
        Kit.House h = visiting();
        h.tape(text);
        call.on(h);
        Kit.due("the TAPE behind " + what, h.hasTape(left), true);
    }

    /** "It is empty behind each call that takes it", whatever the call answers. */
    private static void tapeIsTaken() {
        dueTape("seed", "abc", 0, h -> Kit.due("seed", h.x.seed(), true));
        dueTape("principal", "otto:x", 0, h -> Kit.due("principal", h.x.principal(1), 3));
        dueTape("principal refused", "otto:x", 0, h -> Kit.due("principal", h.x.principal(0), -1));
        dueTape("change", "abc", 0, h -> Kit.due("change", h.x.change(1, 1), 2));
        dueTape("change refused", "abc", 0, h -> Kit.due("change", h.x.change(12, 1), -1));
        dueTape("kdc", "abc", 0, h -> Kit.due("kdc", h.x.kdc(), 60));
        dueTape("agent", "otto:x", 0, h -> Kit.due("agent", h.x.agent(1, 1), true));
        dueTape("agent refused", "otto:x", 0, h -> Kit.due("agent", h.x.agent(4, 1), false));
        dueTape("request", "otto", 0, h -> Kit.due("request", h.x.request(0, 0, 0, 0, 1, 0, 0) > 0, true));
        dueTape("request refused", "otto", 0, h -> Kit.due("request", h.x.request(0, 0, 0, 0, 5, 0, 0), -1));
        dueTape("request of none", "otto", 0, h -> Kit.due("request", h.x.request(4, 0, 0, 0, 1, 0, 0), -1));
        dueTape("take without a request", "abc", 0, h -> Kit.due("take", h.x.take(0), -3));
        dueTape("take of none", "abc", 0, h -> Kit.due("take", h.x.take(1), -1));
        dueTape("serve", "abc", 0, h -> Kit.due("serve", h.x.serve(2), -60));
        dueTape("serve of none", "abc", 0, h -> Kit.due("serve", h.x.serve(3), -1));
        dueTape("met, not mutual", "abc", 0, h -> Kit.due("met", h.x.met(0), -3));
        dueTape("met of none", "abc", 0, h -> Kit.due("met", h.x.met(3), -1));
        dueTape("send", "abc", 0, h -> Kit.due("send", h.x.send(0, 0) > 0, true));
        dueTape("send refused", "abc", 0, h -> Kit.due("send", h.x.send(1, 0), -1));
        dueTape("send of side 2", "abc", 0, h -> Kit.due("send", h.x.send(0, 2), -1));
        dueTape("receive", "abc", 0, h -> Kit.due("receive", h.x.receive(0, 0), -60));
        dueTape("receive of none", "abc", 0, h -> Kit.due("receive", h.x.receive(1, 1), -1));
        dueTape("assure", "abc", 0, h -> Kit.due("assure", h.x.assure(0, 1) > 0, true));
        dueTape("assure refused", "abc", 0, h -> Kit.due("assure", h.x.assure(0, -1), -1));
        dueTape("assured", "abc", 0, h -> Kit.due("assured", h.x.assured(0, 1), -60));
        dueTape("assured of none", "abc", 0, h -> Kit.due("assured", h.x.assured(-1, 1), -1));
        dueTape("handed", "abc", 0, h -> Kit.due("handed", h.x.handed(0, 0), -60));
        dueTape("handed of none", "abc", 0, h -> Kit.due("handed", h.x.handed(0, 1), -1));
    }

    /** Calls that are given nothing leave the TAPE as it is. */
    private static void tapeIsNotTaken() {
        dueTape("out", "abc", 3, h -> h.x.out(-1));
        dueTape("clock", "abc", 3, h -> h.x.clock(5));
        dueTape("policy", "abc", 3, h -> h.x.policy(1, 0, 5));
        dueTape("room", "abc", 3, h -> h.x.room(5));
        dueTape("shift", "abc", 3, h -> h.x.shift(0, 5));
        dueTape("ticket", "abc", 3, h -> h.x.ticket(0, 0, 0));
        dueTape("drop", "abc", 3, h -> h.x.drop(0, 0));
        dueTape("present", "abc", 3, h -> h.x.present(0, 0, 3));
        dueTape("present refused", "abc", 3, h -> h.x.present(0, 0, 4));
        dueTape("joins", "abc", 3, h -> h.x.joins(0, 0));
        dueTape("ends", "abc", 3, h -> h.x.ends(0));
        dueTape("hand", "abc", 3, h -> h.x.hand(0, 0));
        dueTape("hand refused", "abc", 3, h -> h.x.hand(0, 1));
        dueTape("end refused", "abc", 3, h -> h.x.end(4));
        dueTape("end below 0", "abc", 3, h -> h.x.end(-1));
    }

    private static void dueOut(String what, String text, Call call) {
        Kit.House h = visiting();
        h.tape("mark").x.send(0, 1);
        byte[] before = h.out();
        h.tape(text);
        call.on(h);
        Kit.same("the OUT behind " + what, h.out(), before);
    }

    /** "A call that puts something out puts it in its place": the others leave the OUT as it is. */
    private static void outStays() {
        dueOut("feed, end, carry", "abc", h -> h.x.carry(0, 1));
        dueOut("clock", "abc", h -> h.x.clock(5));
        dueOut("seed", "abc", h -> h.x.seed());
        dueOut("principal", "otto:x", h -> h.x.principal(1));
        dueOut("change", "abc", h -> h.x.change(1, 1));
        dueOut("policy, room, shift", "abc", h -> Kit.due("all", h.x.policy(1, 0, 9) && h.x.room(9) && h.x.shift(0, 9), true));
        dueOut("agent", "otto:x", h -> h.x.agent(0, 1));
        dueOut("request refused", "anna", h -> Kit.due("request", h.x.request(0, 3, 0, 0, 1, 0, 0), -1));
        dueOut("take without a request", "abc", h -> Kit.due("take", h.x.take(0), -3));
        dueOut("ticket, drop", "abc", h -> Kit.due("both", h.x.ticket(0, 0, 5) == 18 && h.x.drop(0, 0), true));
        dueOut("present refused", "abc", h -> Kit.due("present", h.x.present(0, 1, 0), -1));
        dueOut("serve of none", "abc", h -> Kit.due("serve", h.x.serve(12), -1));
        dueOut("met", "abc", h -> Kit.due("met", h.x.met(0), -3));
        dueOut("joins, ends", "abc", h -> Kit.due("both", h.x.joins(0, 0) && h.x.ends(0), true));
        dueOut("send refused", "abc", h -> Kit.due("send", h.x.send(0, 2), -1));
        dueOut("receive refused", "abc", h -> Kit.due("receive", h.x.receive(0, 0), -60));
        dueOut("receive of none", "abc", h -> Kit.due("receive", h.x.receive(9, 0), -1));
        dueOut("assure refused", "abc", h -> Kit.due("assure", h.x.assure(1, 1), -1));
        dueOut("assured refused", "abc", h -> Kit.due("assured", h.x.assured(0, 0), -60));
        dueOut("hand refused", "abc", h -> Kit.due("hand", h.x.hand(0, 8), -1));
        dueOut("handed refused", "abc", h -> Kit.due("handed", h.x.handed(0, 0), -60));
        Kit.House h = visiting();
        h.x.hand(0, 0);
        byte[] cred = h.out();
        Kit.due("handed", h.carry().x.handed(0, 0), 1);
        Kit.same("the OUT behind handed", h.out(), cred);
        h.x.present(0, 0, 0);
        Kit.due("serve", h.carry().x.serve(2), 1);
        Kit.due("the OUT is empty if not mutual", h.x.out(-1), 0);
        Kit.due("its byte 0", h.x.out(0), -1);
        h.tape("").x.send(0, 0);
        Kit.due("no bytes of user-data", h.carry().x.receive(0, 1), 0);
        Kit.due("come to the OUT", h.x.out(-1), 0);
        Kit.due("and are carried", h.x.carry(0, 1), 0);
        Kit.due("to the TAPE", h.hasTape(0), true);
    }

    /** "0 bytes at first", and the TAPE "loses" what it had for them. */
    private static void carryOfNothing() {
        Kit.House h = new Kit.House();
        Kit.due("the OUT at first", h.x.out(-1), 0);
        Kit.due("its bytes", h.x.out(0), -1);
        Kit.due("carry", h.tape("abc").x.carry(0, 255), 0);
        Kit.due("the TAPE", h.hasTape(0), true);
        Kit.due("the TAPE of a new one", new Kit.House().hasTape(0), true);
    }

    /** "Numbers of bytes are without sign." */
    private static void outIsWithoutSign() {
        Kit.House h = visiting();
        byte[] all = new byte[256];
        for (int i = 0; i < 256; i++) {
            all[i] = (byte) i;
        }
        h.tape(all).x.send(0, 0);
        Kit.due("receive", h.carry().x.receive(0, 1), 256);
        for (int i = 0; i < 256; i++) {
            Kit.due("out(" + i + ")", h.x.out(i), i);
        }
        Kit.due("out(256)", h.x.out(256), -1);
        Kit.due("out(-2)", h.x.out(-2), -1);
    }

    /** carry: "byte k of it xor the lowest eight bits of mask (k none of its: all as it is): how many bytes". */
    private static void carryChanges() {
        Kit.House first = visiting();
        int size = first.request(0, 0, 0, "krbtgt/HOUSE", 0, 4, 36000);
        int[] places = {0, 1, size - 1, size, -1, -2, 4000, Integer.MIN_VALUE, Integer.MAX_VALUE};
        int[] masks = {0, 1, 128, 255, 256, 257, -1, -256, Integer.MIN_VALUE, Integer.MAX_VALUE};
        for (int k : places) {
            for (int mask : masks) {
                Kit.House h = visiting();
                h.request(0, 0, 0, "krbtgt/HOUSE", 0, 4, 36000);
                byte[] want = h.out();
                Kit.due("carry", h.tape("lost").x.carry(k, mask), size);
                h.x.send(0, 1);
                if (k >= 0 && k < size) {
                    want[k] ^= (byte) (mask & 255);
                }
                Kit.Node part = new Kit.Node(Kit.opened(Kit.KEY_A, 13, h.node().down(3)));
                Kit.same("carry(" + k + ", " + mask + ")", part.down(0).inner, want);
            }
        }
    }

    /** carry: "the OUT (its first 4000 bytes)". */
    private static void carryAtFourThousand() {
        int seen = 0;
        int about = 1600 + (4000 - longReply(1600, 1).x.out(-1)) / 2;
        for (int size = about - 3; size <= about + 3; size++) {
            for (int nonce = 1; nonce < 1000; nonce += 500) {
                Kit.House h = longReply(size, nonce);
                int out = h.x.out(-1);
                seen += out >= 3999 && out <= 4001 ? 1 : 0;
                Kit.due("carry of " + out, h.x.carry(-1, 0), Math.min(4000, out));
                Kit.due("the TAPE of " + out, h.hasTape(Math.min(4000, out)), true);
                Kit.due("the OUT still has " + out, h.x.out(out - 1) >= 0 && h.x.out(out) == -1, true);
            }
        }
        Kit.due("3999, 4000 and 4001 were among them", seen, 3);
    }

    /** The reply has the address twice and the nonce once. */
    private static Kit.House longReply(int size, int nonce) {
        Kit.House h = Kit.house();
        Forms.Body body = Forms.asBody();
        body.addresses = Kit.seq(Kit.pair(2, new byte[size]));
        body.nonce = Kit.num(nonce);
        Kit.due("kdc", h.kdc(Forms.asReq(body, Forms.shownAnna())), 0);
        return h;
    }

    /** clock: "false for numbers that are not as said", and the CLOCK stays. */
    private static void clockRefused() {
        for (int t : new int[] {0, 5, 2000000000}) {
            Kit.House h = new Kit.House();
            Kit.due("clock(" + t + ")", h.x.clock(t), true);
            for (int none : new int[] {-1, 2000000001, Integer.MIN_VALUE, Integer.MAX_VALUE}) {
                Kit.due("clock(" + none + ")", h.x.clock(none), false);
            }
            h.x.kdc();
            Kit.same("the CLOCK stays", h.out(), Kit.error(t, 60, null, null, Kit.TGS_NAME, null));
        }
    }

    /** Times are written of every year that the CLOCK can tell. */
    private static void yearsWritten() {
        for (int year = 1970; year <= 2033; year++) {
            Kit.House h = new Kit.House();
            long first = LocalDate.of(year, 1, 1).toEpochDay() * 86400;
            long march = LocalDate.of(year, 3, 1).toEpochDay() * 86400;
            long last = LocalDate.of(year + 1, 1, 1).toEpochDay() * 86400 - 1;
            for (long t : new long[] {first, march - 1, march, last}) {
                if (h.x.clock((int) Math.min(t, 2000000000))) {
                    h.x.kdc();
                    Kit.same("stime " + t, h.out(),
                        Kit.error((int) Math.min(t, 2000000000), 60, null, null, Kit.TGS_NAME, null));
                }
            }
        }
    }

    /** "Times .. from 1970 to 2037": every month's first second and the one before it, read and written. */
    private static void timesReadAndWritten() {
        List<Long> all = new ArrayList<>();
        for (LocalDate day = LocalDate.of(1970, 1, 1); day.getYear() < 2038; day = day.plusMonths(1)) {
            all.add(day.toEpochDay() * 86400);
            all.add(day.plusMonths(1).toEpochDay() * 86400 - 1);
        }
        for (int k = 0; k < all.size(); k += 3) {
            Kit.House h = visiting();
            h.request(0, 0, 0, "http/www", 0, 4, 0);
            Forms.Reply reply = new Forms.Reply();
            reply.nonce = h.node().down(4, 7).whole;
            reply.ticket = Forms.wwwPass().der();
            reply.sname = Kit.WWW_NAME;
            long[] told = {all.get(k), all.get((k + 1) % all.size()), all.get((k + 2) % all.size())};
            reply.authtime = Kit.time(told[0]);
            reply.endtime = Kit.time(told[1]);
            reply.renewTill = Kit.time(told[2]);
            Kit.due("take", h.tape(reply.der()).x.take(0), 1);
            Kit.due("authtime", h.x.ticket(0, 1, 1), told[0]);
            Kit.due("endtime", h.x.ticket(0, 1, 3), told[1]);
            Kit.due("renew-till", h.x.ticket(0, 1, 4), told[2]);
            h.x.hand(0, 1);
            Kit.Node info = new Kit.Node(Kit.opened(Kit.KEY_A, 14, h.node().down(3))).down(0).parts.get(0);
            Kit.same("authtime", info.down(4).whole, reply.authtime);
            Kit.same("endtime", info.down(6).whole, reply.endtime);
            Kit.same("renew-till", info.down(7).whole, reply.renewTill);
        }
    }

    /** "Times 15 bytes 'YYYYMMDDhhmmssZ'": each place has a digit, and signs beside the digits are none. */
    private static void noDigits() {
        Kit.House h = Kit.house();
        int[] signs = {'/', ':', ' ', '-', '+', '.', 'O', '0' + 128};
        for (int at = 0; at < 15; at++) {
            for (int sign : signs) {
                byte[] text = Kit.ascii("20110111111111Z");
                text[at] = (byte) sign;
                Forms.Body body = Forms.asBody();
                body.from = Kit.tlv(0x18, text);
                h = h.x.calls() > 480 ? Kit.house() : h;
                Kit.due("sign " + sign + " at " + at, h.kdc(Forms.asReq(body)), 60);
            }
        }
    }

    private static byte[] lengthened(int tag, int[] length, byte[] contents) {
        return Kit.cat(Kit.bytes(tag), Kit.bytes(length), contents);
    }

    private static void dueLength(String what, byte[] octets, boolean read) {
        Kit.House h = Kit.house();
        byte[] entry = Kit.seq(Kit.f(1, Kit.num(7)), Kit.f(2, octets));
        Kit.due(what, h.kdc(Forms.asReq(Forms.asBody(), entry)), read ? 25 : 60);
    }

    /** "Lengths .. in as few bytes as can be, no lengths without end". */
    private static void lengthsRead() {
        for (int size : new int[] {0, 1, 126, 127, 128, 129, 254, 255, 256, 257, 3000}) {
            byte[] contents = new byte[size];
            dueLength("one byte for " + size, lengthened(4, new int[] {size & 127}, contents), size < 128);
            dueLength("81 for " + size, lengthened(4, new int[] {0x81, size & 255}, contents), size >= 128 && size < 256);
            dueLength("82 for " + size, lengthened(4, new int[] {0x82, size >> 8, size & 255}, contents), size >= 256);
            dueLength("83 for " + size, lengthened(4, new int[] {0x83, 0, size >> 8, size & 255}, contents), false);
            dueLength("83, behind, for " + size, lengthened(4, new int[] {0x83, size >> 8, size & 255, 0}, contents), false);
            dueLength("84 for " + size, lengthened(4, new int[] {0x84, 0, 0, size >> 8, size & 255}, contents), false);
        }
        dueLength("80 for 128", lengthened(4, new int[] {0x80}, new byte[128]), false);
        byte[] odd = new byte[256];
        odd[0] = 1;
        dueLength("80 for what begins as its length", lengthened(4, new int[] {0x80}, odd), false);
        dueLength("80 with an end", lengthened(0x24, new int[] {0x80}, Kit.bytes(4, 1, 1, 0, 0)), false);
        dueLength("FF", lengthened(4, new int[] {0xFF}, new byte[127]), false);
    }

    /** "Lengths .. in as few bytes as can be": what is written, of every size of user-data about each edge. */
    private static void lengthsWritten() {
        for (int size = 0; size <= 1000; size += size < 260 || size > 990 ? 1 : 7) {
            Kit.House h = visiting();
            h.tape("again").x.seed();
            byte[] text = new byte[size];
            Arrays.fill(text, (byte) size);
            Forms.Data data = new Forms.Data();
            data.data = Kit.oct(text);
            data.sender = Forms.address(1);
            byte[] sealed = Kit.seal(Kit.KEY_A, 13, new Kit.Coins(Kit.ascii("again")).next(16), Kit.app(28, data.der()));
            byte[] want = Forms.Data.priv(Kit.num(5), Kit.num(21), Kit.encrypted(18, Kit.NONE, sealed));
            Kit.due("send of " + size, h.tape(text).x.send(0, 1), want.length);
            Kit.same("KRB-PRIV of " + size, h.out(), want);
            Kit.due("receive of " + size, h.carry().x.receive(0, 0), size);
            Kit.same("user-data of " + size, h.out(), text);
        }
    }

    private static byte[] priv(byte[] sealed) {
        return Forms.Data.priv(Kit.num(5), Kit.num(21), sealed);
    }

    private static byte[] cred(byte[] sealed) {
        return Kit.app(22, Kit.seq(Kit.f(0, Kit.num(5)), Kit.f(1, Kit.num(22)), Kit.f(2, Kit.seq(new Forms.Pass().der())),
            Kit.f(3, sealed)));
    }

    private static byte[] apRep(byte[] sealed) {
        return Kit.app(15, Kit.seq(Kit.f(0, Kit.num(5)), Kit.f(1, Kit.num(15)), Kit.f(2, sealed)));
    }

    /** "Refused when it has below 28 bytes": with 28 and more, of every size, it is opened and then not of its type. */
    private static void belowTwentyEight() {
        for (int size = 0; size < 50; size++) {
            byte[] text = new byte[size];
            Kit.House h = visiting();
            Kit.due("a ticket's " + size, h.tape(Forms.apReq(Forms.wwwPass().der(Kit.sealed(Kit.WWW_18, 2, 1, text)),
                Kit.encrypted(18, Kit.NONE, Kit.NIL))).x.serve(2), -60);
            Kit.due("an authenticator's " + size, h.tape(Forms.apReq(Forms.wwwPass().der(),
                Kit.sealed(Kit.KEY_A, 11, Kit.NONE, text))).x.serve(2), -60);
            Kit.due("a KRB-PRIV's " + size, h.tape(priv(Kit.sealed(Kit.KEY_A, 13, Kit.NONE, text))).x.receive(0, 1), -60);
            Kit.due("a KRB-CRED's " + size, h.tape(cred(Kit.sealed(Kit.KEY_A, 14, Kit.NONE, text))).x.handed(0, 0), -60);
            h.x.present(0, 0, 1);
            Kit.due("an AP-REP's " + size, h.tape(apRep(Kit.sealed(Kit.KEY_A, 12, Kit.NONE, text))).x.met(0), -60);
        }
        for (int size = 0; size < 28; size++) {
            byte[] none = Kit.encrypted(18, Kit.NONE, new byte[size]);
            Kit.House h = visiting();
            Kit.due("a ticket of " + size, h.tape(Forms.apReq(Forms.wwwPass().der(none), none)).x.serve(2), -31);
            Kit.due("an authenticator of " + size, h.tape(Forms.apReq(Forms.wwwPass().der(), none)).x.serve(2), -31);
            Kit.due("a KRB-PRIV of " + size, h.tape(priv(none)).x.receive(0, 1), -31);
            Kit.due("a KRB-CRED of " + size, h.tape(cred(none)).x.handed(0, 0), -31);
            h.x.present(0, 0, 1);
            Kit.due("an AP-REP of " + size, h.tape(apRep(none)).x.met(0), -31);
        }
    }

    /** "Refused when .. the MAC is another one", in any of its 12 bytes, or of what it is over. */
    private static void everyByteOfTheMac() {
        for (byte[] key : new byte[][] {Kit.KEY_A, Kit.KEY_B}) {
            Forms.Pass pass = Forms.wwwPass();
            pass.session = key;
            Kit.House h = Kit.house();
            Kit.due("serve", h.tape(Forms.visit(pass, new Forms.Proof(), false)).x.serve(2), 0);
            byte[] good = Kit.seal(key, 13, new byte[16], Kit.app(28, new Forms.Data().der()));
            for (int i = 0; i < good.length; i++) {
                byte[] other = good.clone();
                other[i] ^= (byte) (1 << (i % 8));
                if (h.x.calls() > 480) {
                    h = Kit.house();
                    h.tape(Forms.visit(pass, new Forms.Proof(), false)).x.serve(2);
                }
                Kit.due("byte " + i, h.tape(priv(Kit.encrypted(Kit.typeOf(key), Kit.NONE, other))).x.receive(0, 1), -31);
            }
            byte[] longer = Kit.cat(good, Kit.bytes(0));
            Kit.due("a byte more", h.tape(priv(Kit.encrypted(Kit.typeOf(key), Kit.NONE, longer))).x.receive(0, 1), -31);
            byte[] shorter = Arrays.copyOf(good, good.length - 1);
            Kit.due("a byte less", h.tape(priv(Kit.encrypted(Kit.typeOf(key), Kit.NONE, shorter))).x.receive(0, 1), -31);
            Kit.due("as it is", h.tape(priv(Kit.encrypted(Kit.typeOf(key), Kit.NONE, good))).x.receive(0, 1), 5);
        }
    }

    /** A key opens what is of its own ETYPE alone, though the bytes would be right. */
    private static void labelOfAnotherKey() {
        for (int type : new int[] {17, 19, 16, 0, -18, 23}) {
            Kit.House h = visiting();
            byte[] proof = Kit.seal(Kit.KEY_A, 11, new byte[16], new Forms.Proof().text());
            Kit.due("an authenticator's etype " + type, h.tape(Forms.apReq(Forms.wwwPass().der(),
                Kit.encrypted(type, Kit.NONE, proof))).x.serve(2), -31);
            byte[] data = Kit.seal(Kit.KEY_A, 13, new byte[16], Kit.app(28, new Forms.Data().der()));
            Kit.due("a KRB-PRIV's etype " + type, h.tape(priv(Kit.encrypted(type, Kit.NONE, data))).x.receive(0, 1), -31);
            byte[] info = Kit.seal(Kit.KEY_A, 14, new byte[16], new Forms.Cred().text());
            Kit.due("a KRB-CRED's etype " + type, h.tape(cred(Kit.encrypted(type, Kit.NONE, info))).x.handed(0, 0), -31);
            h.x.present(0, 0, 1);
            byte[] told = Kit.seal(Kit.KEY_A, 12, new byte[16],
                Kit.app(27, Kit.seq(Kit.f(0, Kit.time(Kit.NOW)), Kit.f(1, Kit.num(1)))));
            Kit.due("an AP-REP's etype " + type, h.tape(apRep(Kit.encrypted(type, Kit.NONE, told))).x.met(0), -31);
            h.x.present(0, 0, 1);
            told = Kit.seal(Kit.KEY_A, 12, new byte[16], Kit.app(27, Kit.seq(Kit.f(0, Kit.time(Kit.NOW)), Kit.f(1, Kit.num(2)))));
            Kit.due("as it is", h.tape(apRep(Kit.encrypted(18, Kit.NONE, told))).x.met(0), 0);
        }
    }

    /** "The k-th 20 bytes .. of k as 4 bytes, the highest first": rows beyond the 255th. */
    private static void coinsOfHighRows() {
        Kit.House h = visiting();
        h.tape("rows").x.seed();
        int taken = 0;
        while (taken < 300 * 20) {
            h.x.present(0, 0, 3);
            taken += 32 + 4 + 16;
        }
        Kit.Coins coins = new Kit.Coins(Kit.ascii("rows"));
        coins.next(taken);
        for (int k = 0; k < 20; k++) {
            h.request(0, 0, 0, "anna", 0, 4, 0);
            Kit.due("nonce " + k, h.node().down(4, 7).number(), coins.number(0x7FFFFFFF));
        }
    }

    /** COINS are used "in the order in which they are needed": a call that is refused needs none. */
    private static void coinsOfRefusedCalls() {
        Kit.House h = visiting();
        h.tape("again").x.seed();
        h.request(0, 3, 0, "anna", 0, 4, 0);
        h.request(0, 2, 1, "anna", 0, 4, 0);
        h.x.present(0, 1, 3);
        h.x.present(0, 0, 4);
        h.tape("x").x.send(0, 2);
        h.tape(new byte[1001]).x.send(0, 0);
        h.x.hand(0, 1);
        h.kdc(Kit.NIL);
        h.kdc(Forms.asReq(Forms.asBody()));
        Forms.Body body = Forms.asBody();
        body.till = Kit.time(1);
        Kit.due("too late", h.kdc(Forms.asReq(body, Forms.shownAnna())), 11);
        Kit.due("locked", h.x.policy(2, 2, 32), true);
        Forms.Proof proof = new Forms.Proof();
        proof.cusec = Kit.num(77);
        proof.number = Kit.num(1);
        Kit.due("locked", h.tape(Forms.visit(Forms.wwwPass(), proof, true)).x.serve(2), -18);
        h.tape("y").x.assure(0, 0);
        h.carry().x.assured(0, 1);
        h.tape("new").x.change(1, 1);
        h.principal("otto:x", 1);
        h.agent(1, "otto:x", 1);
        h.request(0, 0, 0, "anna", 0, 4, 0);
        Kit.due("the first COINS", h.node().down(4, 7).number(), new Kit.Coins(Kit.ascii("again")).number(0x7FFFFFFF));
    }

    /** "An object is used for at most 512 calls": the last of them is as good as the first. */
    private static void lastCall() {
        Kit.House h = visiting();
        Kit.Coins coins = new Kit.Coins(Kit.ascii("life"));
        h.tape("life").x.seed();
        while (h.x.calls() + 6 < Played.CALLS) {
            h.tape("x").x.send(0, 0);
            coins.next(16);
            Kit.due("receive", h.carry().x.receive(0, 1), 1);
        }
        while (h.x.calls() + 2 < Played.CALLS) {
            h.x.out(0);
        }
        h.x.carry(-1, 0);
        Forms.Data data = new Forms.Data();
        byte[] text = Kit.app(28, data.der());
        Kit.due("all but one", h.x.calls(), 511);
        int size = Forms.Data.priv(Kit.num(5), Kit.num(21), Kit.encrypted(18, Kit.NONE,
            Kit.seal(Kit.KEY_A, 13, coins.next(16), text))).length - 4;
        // The number of side 1 is 0, of one byte as that of the form; user-data is one byte for five.
        Kit.due("the 512th", h.x.send(0, 1), size);
    }
}
