/** Promises 20 to 22: serve, met, joins. */
public final class ServiceTest {
    public static void main(String[] args) {
        serveInOrder();
        serveTheSeal();
        serveTheRest();
        apRep();
        sessionsAreEight();
        seenByEach();
        met();
        joins();
        joinsAnew();
        Kit.finish();
    }

    private static void refused(String what, Kit.House h, int s, byte[] visit, int code, byte[] sname) {
        Kit.due(what, h.tape(visit).x.serve(s), -code);
        Kit.same(what, h.out(), Kit.error(Kit.NOW, code, null, null, sname, null));
        Kit.due("the TAPE is empty behind it", h.x.end(1), false);
    }

    private static void serveInOrder() {
        Kit.House h = Kit.house();
        byte[] www = Kit.WWW_NAME;
        int[] none = {-1, 3, 12, Integer.MAX_VALUE};
        for (int s : none) {
            Kit.due("serve of none", h.tape("x").x.serve(s), -1);
            Kit.due("the TAPE is empty behind it", h.x.end(1), false);
        }
        Kit.due("the OUT stays", h.x.out(-1), 0);
        refused("nothing", h, 2, Kit.NIL, 60, www);
        refused("as krbtgt/HOUSE", h, 0, Kit.NIL, 60, Kit.TGS_NAME);
        refused("as anna", h, 1, Kit.NIL, 60, Kit.name(2, "anna"));
        Forms.Pass pass = Forms.wwwPass();
        pass.version = Kit.num(6);
        pass.realm = Kit.text("HOUSES");
        pass.sname = Kit.ANNA_NAME;
        byte[] no = Kit.encrypted(19, 2, Kit.NIL);
        byte[] proof = Kit.encrypted(17, Kit.NONE, Kit.NIL);
        byte[] all = Kit.flags(-1);
        refused("something behind", h, 2,
            Kit.cat(Forms.apReq(Kit.num(4), Kit.num(15), all, pass.der(no), proof), Kit.bytes(0)), 60, www);
        refused("pvno", h, 2, Forms.apReq(Kit.num(4), Kit.num(15), all, pass.der(no), proof), 3, www);
        refused("msg-type", h, 2, Forms.apReq(Kit.num(5), Kit.num(15), all, pass.der(no), proof), 40, www);
        for (int bit = 0; bit < 32; bit++) {
            byte[] options = Kit.flags(1 << (31 - bit));
            int code = bit == 2 ? 39 : 13;
            refused("ap-options " + bit, h, 2, Forms.apReq(Kit.num(5), Kit.num(14), options, pass.der(no), proof), code, www);
        }
        byte[] far = Kit.tlv(3, Kit.bytes(0, 0, 0, 0, 0, 1));
        refused("ap-options 39", h, 2, Forms.apReq(Kit.num(5), Kit.num(14), far, pass.der(no), proof), 13, www);
        refused("tkt-vno", h, 2, Forms.apReq(pass.der(no), proof), 39, www);
        pass.version = Kit.num(5);
        refused("realm", h, 2, Forms.apReq(pass.der(no), proof), 35, www);
        pass.realm = Kit.text("HOUSE");
        refused("sname", h, 2, Forms.apReq(pass.der(no), proof), 35, www);
        pass.sname = Kit.name(55, "http", "www");
        refused("kvno", h, 2, Forms.apReq(pass.der(no), proof), 44, www);
        no = Kit.encrypted(19, Kit.NONE, Kit.NIL);
        refused("etype", h, 2, Forms.apReq(pass.der(no), proof), 14, www);
        no = Kit.encrypted(18, Kit.NONE, new byte[100]);
        refused("not opened", h, 2, Forms.apReq(pass.der(no), proof), 31, www);
    }

    private static void serveTheSeal() {
        Kit.House h = Kit.house();
        byte[] www = Kit.WWW_NAME;
        Forms.Pass pass = Forms.wwwPass();
        pass.key = Kit.pair(17, Kit.NIL);
        pass.part = 2;
        byte[] proof = Kit.encrypted(17, Kit.NONE, Kit.NIL);
        refused("no EncTicketPart", h, 2, Forms.apReq(pass.der(), proof), 60, www);
        pass.part = 3;
        pass.crealm = Kit.text("OTHER");
        refused("crealm", h, 2, Forms.apReq(pass.der(), proof), 60, www);
        pass.crealm = Kit.text("HOUSE");
        pass.cname = Kit.name(1, "x".repeat(39));
        refused("41 bytes of parts", h, 2, Forms.apReq(pass.der(), proof), 60, www);
        pass.cname = Kit.name(1, "x".repeat(38));
        refused("key", h, 2, Forms.apReq(pass.der(), proof), 14, www);
        pass.key = null;
        Forms.Proof made = new Forms.Proof();
        made.part = 1;
        refused("authenticator's etype", h, 2,
            Forms.apReq(pass.der(), Kit.sealed(Kit.KEY_B, 11, Kit.NONE, made.text())), 31, www);
        refused("authenticator's usage", h, 2,
            Forms.apReq(pass.der(), Kit.sealed(pass.session, 7, Kit.NONE, made.text())), 31, www);
        refused("no Authenticator", h, 2, Forms.visit(pass, made, false), 60, www);
        made.part = 2;
        made.ctime = Kit.time(Kit.NOW + 301);
        refused("cname", h, 2, Forms.visit(pass, made, false), 36, www);
        made.cname = Kit.name(9, "x".repeat(38));
        made.crealm = Kit.text("OTHER");
        refused("crealm", h, 2, Forms.visit(pass, made, false), 36, www);
        made.crealm = Kit.text("HOUSE");
        refused("ctime", h, 2, Forms.visit(pass, made, false), 37, www);
        made.ctime = Kit.time(Kit.NOW - 301);
        refused("ctime", h, 2, Forms.visit(pass, made, false), 37, www);
        made.ctime = Kit.time(Kit.NOW - 300);
        Kit.due("a stranger to the database is let in", h.tape(Forms.visit(pass, made, false)).x.serve(2), 0);
    }

    private static void serveTheRest() {
        Kit.House h = Kit.house();
        byte[] www = Kit.WWW_NAME;
        h.x.policy(2, 2, 32);
        Forms.Pass pass = Forms.wwwPass();
        pass.starttime = Kit.time(Kit.NOW + 301);
        pass.endtime = Kit.time(Kit.NOW);
        Forms.Proof proof = new Forms.Proof();
        proof.subkey = Kit.pair(18, new byte[31]);
        proof.ctime = Kit.time(Kit.NOW + 300);
        h.x.room(7);
        refused("starttime", h, 2, Forms.visit(pass, proof, true), 33, www);
        refused("there already", h, 2, Forms.visit(pass, proof, true), 34, www);
        pass.starttime = null;
        pass.authtime = Kit.time(Kit.NOW + 301);
        proof.cusec = Kit.num(1);
        refused("authtime", h, 2, Forms.visit(pass, proof, true), 33, www);
        pass.authtime = Kit.time(Kit.NOW + 300);
        proof.cusec = Kit.num(2);
        refused("endtime", h, 2, Forms.visit(pass, proof, true), 32, www);
        pass.endtime = Kit.time(Kit.NOW + 1);
        proof.cusec = Kit.num(3);
        refused("subkey", h, 2, Forms.visit(pass, proof, true), 14, www);
        proof.subkey = Kit.pair(1, new byte[16]);
        proof.cusec = Kit.num(4);
        refused("subkey", h, 2, Forms.visit(pass, proof, true), 14, www);
        proof.subkey = Kit.key(Kit.KEY_A);
        proof.cusec = Kit.num(5);
        refused("locked", h, 2, Forms.visit(pass, proof, true), 18, www);
        h.x.policy(2, 2, 16);
        h.x.policy(2, 3, 1);
        proof.cusec = Kit.num(6);
        Kit.due("no service, expired: of no matter here", h.tape(Forms.visit(pass, proof, true)).x.serve(2), 0);
        proof.cusec = Kit.num(7);
        refused("no room", h, 2, Forms.visit(pass, proof, true), 29, www);
    }

    private static void apRep() {
        Kit.House h = Kit.house();
        Forms.Pass pass = Forms.wwwPass();
        pass.session = Kit.KEY_B;
        Forms.Proof proof = new Forms.Proof();
        proof.cusec = Kit.num(999999);
        proof.ctime = Kit.time(Kit.NOW - 3);
        proof.subkey = Kit.key(Kit.KEY_A);
        proof.number = Kit.num(4294967295L);
        Kit.due("mutual", h.tape(Forms.visit(pass, proof, true)).x.serve(2), 0);
        Kit.Coins coins = new Kit.Coins(Kit.ascii("coins"));
        byte[] text = Kit.app(27, Kit.seq(Kit.f(0, proof.ctime), Kit.f(1, proof.cusec),
            Kit.f(3, Kit.num(coins.number(0x3FFFFFFF)))));
        Kit.same("AP-REP", h.out(), Kit.app(15, Kit.seq(Kit.f(0, Kit.num(5)), Kit.f(1, Kit.num(15)),
            Kit.f(2, Kit.encrypted(17, Kit.NONE, Kit.seal(Kit.KEY_B, 12, coins.next(16), text))))));
        proof.number = Kit.num(0);
        proof.cusec = Kit.num(4);
        Kit.due("mutual, seq-number 0", h.tape(Forms.visit(pass, proof, true)).x.serve(2), 1);
        Kit.Node rep = new Kit.Node(Kit.opened(Kit.KEY_B, 12, h.node().down(2)));
        Kit.same("is answered with one", rep.down(3).whole, Kit.num(coins.number(0x3FFFFFFF)));
        coins.next(16);
        h.x.ends(1);
        proof.cusec = Kit.num(1);
        proof.number = null;
        Kit.due("mutual, no seq-number", h.tape(Forms.visit(pass, proof, true)).x.serve(2), 1);
        text = Kit.app(27, Kit.seq(Kit.f(0, proof.ctime), Kit.f(1, proof.cusec)));
        Kit.same("AP-REP", h.out(), Kit.app(15, Kit.seq(Kit.f(0, Kit.num(5)), Kit.f(1, Kit.num(15)),
            Kit.f(2, Kit.encrypted(17, Kit.NONE, Kit.seal(Kit.KEY_B, 12, coins.next(16), text))))));
        proof.cusec = Kit.num(2);
        proof.number = Kit.num(5);
        Kit.due("not mutual", h.tape(Forms.visit(pass, proof, false)).x.serve(2), 2);
        Kit.due("the OUT is empty", h.x.out(-1), 0);
        // Not mutual takes no COINS.
        proof.cusec = Kit.num(3);
        h.tape(Forms.visit(pass, proof, true)).x.serve(2);
        Kit.Node part = new Kit.Node(Kit.opened(Kit.KEY_B, 12, h.node().down(2)));
        Kit.same("the next COINS", part.down(3).whole, Kit.num(coins.number(0x3FFFFFFF)));
    }

    private static void sessionsAreEight() {
        Kit.House h = Kit.house();
        Forms.Pass pass = Forms.wwwPass();
        Forms.Proof proof = new Forms.Proof();
        for (int n = 0; n < 8; n++) {
            proof.cusec = Kit.num(n);
            Kit.due("SESSION " + n, h.tape(Forms.visit(pass, proof, false)).x.serve(2), n);
        }
        proof.cusec = Kit.num(8);
        refused("no SESSION is free", h, 2, Forms.visit(pass, proof, false), 29, Kit.WWW_NAME);
        Kit.due("ends(6)", h.x.ends(6), true);
        Kit.due("ends(2)", h.x.ends(2), true);
        Kit.due("ends(2) again", h.x.ends(2), false);
        refused("it was kept all the same", h, 2, Forms.visit(pass, proof, false), 34, Kit.WWW_NAME);
        proof.cusec = Kit.num(9);
        Kit.due("the lowest that is free", h.tape(Forms.visit(pass, proof, false)).x.serve(2), 2);
        Kit.due("ends(-1)", h.x.ends(-1), false);
        Kit.due("ends(8)", h.x.ends(8), false);
    }

    private static void seenByEach() {
        Kit.House h = Kit.house();
        h.principal("imap:x", 1);
        Forms.Pass imap = Forms.wwwPass();
        imap.sname = Kit.name(2, "imap");
        imap.sealing = Kit.stringToKey(17, "x", "HOUSEimap", 1);
        Forms.Proof proof = new Forms.Proof();
        Kit.due("www", h.tape(Forms.visit(Forms.wwwPass(), proof, false)).x.serve(2), 0);
        Kit.due("the same at imap", h.tape(Forms.visit(imap, proof, false)).x.serve(3), 1);
        Kit.due("again", h.tape(Forms.visit(imap, proof, false)).x.serve(3), -34);
        Kit.due("again", h.tape(Forms.visit(Forms.wwwPass(), proof, true)).x.serve(2), -34);
        // One that was not opened, or had another name or time, is not kept.
        proof.cusec = Kit.num(7);
        proof.crealm = Kit.text("OTHER");
        Kit.due("another crealm", h.tape(Forms.visit(Forms.wwwPass(), proof, false)).x.serve(2), -36);
        proof.crealm = Kit.text("HOUSE");
        h.x.clock(Kit.NOW + 301);
        Kit.due("too late", h.tape(Forms.visit(Forms.wwwPass(), proof, false)).x.serve(2), -37);
        h.x.clock(Kit.NOW);
        Kit.due("it may come", h.tape(Forms.visit(Forms.wwwPass(), proof, false)).x.serve(2), 2);
    }

    /** Anna at http/www with a ticket that the test made: its key is KEY_A. */
    private static Kit.House visiting(int how) {
        Kit.House h = Kit.house();
        h.agent(0, "anna:secret", 2);
        Forms.give(h, 0, Forms.wwwPass());
        h.x.present(0, 0, how);
        return h;
    }

    private static byte[] answer(byte[] pvno, byte[] type, byte[] encrypted) {
        return Kit.app(15, Kit.seq(Kit.f(0, pvno), Kit.f(1, type), Kit.f(2, encrypted)));
    }

    private static void dueMet(String what, byte[] answer, int want) {
        Kit.House h = visiting(1);
        Kit.due(what, h.tape(answer).x.met(0), want);
        Kit.due("the TAPE is empty behind it", h.x.end(1), false);
        Kit.due("once", h.tape(answer).x.met(0), -3);
    }

    private static byte[] told(int time, int micro, byte[] number, int part) {
        return Kit.app(part, Kit.seq(Kit.f(0, Kit.time(time)), Kit.f(1, Kit.num(micro)), Kit.f(3, number)));
    }

    private static byte[] sealedAnswer(byte[] text) {
        return answer(Kit.num(5), Kit.num(15), Kit.sealed(Kit.KEY_A, 12, Kit.NONE, text));
    }

    private static void met() {
        Kit.House h = visiting(0);
        byte[] good = sealedAnswer(told(Kit.NOW, 0, Kit.num(5), 27));
        Kit.due("not mutual", h.tape(good).x.met(0), -3);
        Kit.due("no such AGENT", h.tape(good).x.met(1), -1);
        Kit.due("the TAPE is empty behind it", h.x.end(1), false);
        h.agent(1, "otto:x", 1);
        Kit.due("no AP-REQ", h.tape(good).x.met(1), -3);
        dueMet("as it should be", good, 0);
        dueMet("no seq-number", sealedAnswer(told(Kit.NOW, 0, null, 27)), 0);
        dueMet("nothing", Kit.NIL, -60);
        dueMet("something behind", Kit.cat(good, Kit.bytes(0)), -60);
        byte[] text = told(Kit.NOW, 0, Kit.num(5), 27);
        dueMet("pvno", answer(Kit.num(4), Kit.num(14), Kit.encrypted(17, Kit.NONE, Kit.NIL)), -3);
        dueMet("msg-type", answer(Kit.num(5), Kit.num(14), Kit.encrypted(17, Kit.NONE, Kit.NIL)), -40);
        dueMet("not opened", answer(Kit.num(5), Kit.num(15), Kit.encrypted(17, Kit.NONE, Kit.NIL)), -31);
        dueMet("another usage", answer(Kit.num(5), Kit.num(15), Kit.sealed(Kit.KEY_A, 11, Kit.NONE, text)), -31);
        dueMet("another key", answer(Kit.num(5), Kit.num(15), Kit.sealed(Kit.KEY_B, 12, Kit.NONE, text)), -31);
        dueMet("no EncAPRepPart", sealedAnswer(told(Kit.NOW, 0, null, 26)), -60);
        dueMet("ctime", sealedAnswer(told(Kit.NOW + 1, 0, null, 27)), -46);
        dueMet("cusec", sealedAnswer(told(Kit.NOW, 1, null, 27)), -46);
        dueMet("a subkey of the service is of no matter", sealedAnswer(Kit.app(27, Kit.seq(Kit.f(0, Kit.time(Kit.NOW)),
            Kit.f(1, Kit.num(0)), Kit.f(2, Kit.pair(1, Kit.NIL))))), 0);
        h = visiting(1);
        byte[] early = h.out();
        h.x.present(0, 0, 1);
        h.tape(early).x.serve(2);
        Kit.due("the AP-REP to an earlier one", h.carry().x.met(0), -46);
    }

    private static void joins() {
        Kit.House h = visiting(2);
        Kit.due("no SESSION", h.x.joins(0, 0), false);
        Kit.due("serve", h.carry().x.serve(2), 0);
        Kit.due("no AGENT", h.x.joins(0, 1), false);
        Kit.due("no AGENT -1", h.x.joins(0, -1), false);
        Kit.due("no SESSION 1", h.x.joins(1, 0), false);
        Kit.due("no SESSION -1", h.x.joins(-1, 0), false);
        h.agent(1, "anna:secret", 2);
        Kit.due("an AGENT without an AP-REQ", h.x.joins(0, 1), false);
        Kit.due("not joined yet", h.tape("x").x.send(0, 0), -1);
        Kit.due("side 1 needs no joining", h.tape("x").x.send(0, 1) > 0, true);
        Kit.due("joins", h.x.joins(0, 0), true);
        Kit.due("joined", h.tape("x").x.send(0, 0) > 0, true);
        h.x.present(0, 0, 2);
        Kit.due("a later AP-REQ is another one", h.x.joins(0, 0), false);
        Kit.due("but what was joined stays", h.tape("x").x.send(0, 0) > 0, true);
        Kit.due("its own SESSION", h.x.present(0, 0, 0) > 0 && h.carry().x.serve(2) == 1, true);
        Kit.due("its own SESSION", h.x.joins(1, 0), true);
        h.x.ends(0);
        Kit.due("ended", h.x.joins(0, 0), false);
        Kit.due("ended", h.tape("x").x.send(0, 1), -1);
        h.agent(0, "anna:secret", 2);
        Kit.due("another AGENT now: joined no more", h.tape("x").x.send(1, 0), -1);
        Kit.due("nor can it join", h.x.joins(1, 0), false);
        Kit.due("side 1 is as it was", h.tape("x").x.send(1, 1) > 0, true);
        // One other thing at a time: ctime, cusec, seq-number, the ticket's key.
        dueJoin("all the same", 0, 0, 0, Kit.KEY_A, true);
        dueJoin("ctime", 1, 0, 0, Kit.KEY_A, false);
        dueJoin("cusec", 0, 1, 0, Kit.KEY_A, false);
        dueJoin("seq-number", 0, 0, 1, Kit.KEY_A, false);
        dueJoin("no seq-number", 0, 0, -1, Kit.KEY_A, false);
        dueJoin("the ticket's key", 0, 0, 0, Kit.KEY_B, false);
        dueJoin("the ticket's key, as long", 0, 0, 0, Kit.TGS_18, false);
        byte[] last = Kit.KEY_A.clone();
        last[31] ^= 1;
        dueJoin("the ticket's key, its last bit", 0, 0, 0, last, false);
        byte[] first = Kit.KEY_A.clone();
        first[0] ^= 1;
        dueJoin("the ticket's key, its first byte", 0, 0, 0, first, false);
        h = visiting(2);
        h.carry().x.serve(2);
        h.x.joins(0, 0);
        h.x.ends(0);
        h.x.present(0, 0, 2);
        Kit.due("a new SESSION of the same number", h.carry().x.serve(2), 0);
        Kit.due("is not joined yet", h.tape("x").x.send(0, 0), -1);
    }

    private static void dueJoin(String what, int time, int micro, int number, byte[] key, boolean want) {
        Kit.House h = visiting(0);
        Kit.Node shown = new Kit.Node(Kit.opened(Kit.KEY_A, 11, h.node().down(4)));
        Forms.Proof proof = new Forms.Proof();
        proof.ctime = Kit.time(Kit.NOW + time);
        proof.cusec = Kit.num(micro);
        proof.number = number < 0 ? null : Kit.num(shown.down(7).number() + number);
        Forms.Pass pass = Forms.wwwPass();
        pass.session = key;
        Kit.due("serve", h.tape(Forms.visit(pass, proof, false)).x.serve(2), 0);
        Kit.due("joins: " + what, h.x.joins(0, 0), want);
    }

    /** Each joining begins side 0's numbers anew; side 1's go on. */
    private static void joinsAnew() {
        Kit.House h = visiting(1);
        h.carry().x.serve(2);
        byte[] rep = h.out();
        Kit.due("joins before it met", h.x.joins(0, 0), true);
        Kit.due("side 1's message", h.tape("x").x.send(0, 1) > 0, true);
        byte[] message = h.out();
        Kit.due("the other's number is not known: 0", h.tape(message).x.receive(0, 0), -42);
        Kit.due("met", h.tape(rep).x.met(0), 0);
        Kit.due("that does not tell a SESSION that was joined before", h.tape(message).x.receive(0, 0), -42);
        Kit.due("joins once more", h.x.joins(0, 0), true);
        Kit.due("now it is due", h.tape(message).x.receive(0, 0), 1);
        Kit.due("and not twice", h.tape(message).x.receive(0, 0), -42);
        Kit.due("joins once more", h.x.joins(0, 0), true);
        Kit.due("anew", h.tape(message).x.receive(0, 0), 1);
        Kit.due("side 0's message", h.tape("a").x.send(0, 0) > 0, true);
        Kit.due("taken", h.carry().x.receive(0, 1), 1);
        Kit.due("joins once more", h.x.joins(0, 0), true);
        Kit.due("side 0's first number again", h.tape("b").x.send(0, 0) > 0, true);
        Kit.due("side 1 waits for the second", h.carry().x.receive(0, 1), -42);
        Kit.due("side 0's second", h.tape("c").x.send(0, 0) > 0, true);
        Kit.due("is due", h.carry().x.receive(0, 1), 1);
    }
}
