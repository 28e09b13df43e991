import java.util.Arrays;

/** Promises 23 to 29: send, receive, ends, assure, assured, hand, handed. */
public final class SessionTest {
    public static void main(String[] args) {
        sendWhole();
        assureWhole();
        sidesAndSizes();
        bothWays();
        receiveInOrder();
        assuredInOrder();
        numbersGoRound();
        clocks();
        handWhole();
        handedInOrder();
        handedOften();
        handedAgain();
        Kit.finish();
    }

    /** Anna at http/www: the ticket's key is KEY_A, the numbers of both sides as told. */
    private static final class Visit {
        final Kit.House h = Kit.house();
        final byte[] key;
        final long mine;
        final long its;

        Visit(int how) {
            h.agent(0, "anna:secret", 2);
            h.request(0, 0, 0, "http/www", 0, 4, 36000);
            Forms.Reply reply = new Forms.Reply();
            reply.nonce = h.node().down(4, 7).whole;
            reply.ticket = Forms.wwwPass().der();
            reply.sname = Kit.WWW_NAME;
            h.tape(reply.der()).x.take(0);
            h.x.present(0, 0, how);
            Kit.Node shown = new Kit.Node(Kit.opened(Kit.KEY_A, 11, h.node().down(4)));
            mine = shown.down(7).number();
            key = (how & 2) != 0 ? shown.down(6, 1).inner : Kit.KEY_A;
            h.carry().x.serve(2);
            its = (how & 1) == 0 ? 0 : new Kit.Node(Kit.opened(Kit.KEY_A, 12, h.node().down(2))).down(3).number();
            if ((how & 1) != 0) {
                h.carry().x.met(0);
            }
            h.x.joins(0, 0);
            h.tape("again").x.seed();
        }
    }

    private static Forms.Data data(byte[] text, int time, long number, int side) {
        Forms.Data data = new Forms.Data();
        data.data = Kit.oct(text);
        data.timestamp = Kit.time(time);
        data.number = Kit.num(number);
        data.sender = Forms.address(side);
        return data;
    }

    private static void sendWhole() {
        for (int how = 0; how < 4; how++) {
            Visit v = new Visit(how);
            v.h.x.shift(0, -77);
            Kit.Coins coins = new Kit.Coins(Kit.ascii("again"));
            for (int k = 0; k < 4; k++) {
                int side = k % 2;
                byte[] text = new byte[new int[] {0, 1, 300, 1000}[k]];
                long number = (side == 0 ? v.mine : v.its) + k / 2;
                byte[] inner = Kit.app(28, data(text, side == 0 ? Kit.NOW - 77 : Kit.NOW, number, side).der());
                byte[] want = Forms.Data.priv(Kit.num(5), Kit.num(21), Kit.encrypted(Kit.typeOf(v.key), Kit.NONE,
                    Kit.seal(v.key, 13, coins.next(16), inner)));
                Kit.due("send", v.h.tape(text).x.send(0, side), want.length);
                Kit.same("KRB-PRIV", v.h.out(), want);
                Kit.due("the TAPE is empty behind it", v.h.x.end(1), false);
            }
        }
    }

    private static void assureWhole() {
        for (int how = 0; how < 4; how++) {
            Visit v = new Visit(how);
            v.h.x.shift(0, 77);
            for (int k = 0; k < 4; k++) {
                int side = k % 2;
                byte[] text = new byte[new int[] {0, 1, 300, 1000}[k]];
                long number = (side == 0 ? v.mine : v.its) + k / 2;
                byte[] want = data(text, side == 0 ? Kit.NOW + 77 : Kit.NOW, number, side).safe(v.key);
                Kit.due("assure", v.h.tape(text).x.assure(0, side), want.length);
                Kit.same("KRB-SAFE", v.h.out(), want);
                Kit.due("the TAPE is empty behind it", v.h.x.end(1), false);
            }
            // It takes no COINS.
            v.h.request(0, 0, 0, "anna", 0, 4, 0);
            Kit.due("the next COINS", v.h.node().down(4, 7).number(), new Kit.Coins(Kit.ascii("again")).number(0x7FFFFFFF));
        }
    }

    private static void sidesAndSizes() {
        Visit v = new Visit(3);
        int[][] bad = {{0, 2}, {0, -1}, {1, 0}, {1, 1}, {-1, 0}, {8, 1}, {Integer.MAX_VALUE, 1}, {0, Integer.MIN_VALUE}};
        v.h.tape("x").x.send(0, 1);
        byte[] before = v.h.out();
        for (int[] b : bad) {
            Kit.due("send", v.h.tape("x").x.send(b[0], b[1]), -1);
            Kit.due("the TAPE is empty behind it", v.h.x.end(1), false);
            Kit.due("assure", v.h.tape("x").x.assure(b[0], b[1]), -1);
            Kit.due("the TAPE is empty behind it", v.h.x.end(1), false);
            Kit.due("receive", v.h.tape("x").x.receive(b[0], b[1]), -1);
            Kit.due("the TAPE is empty behind it", v.h.x.end(1), false);
            Kit.due("assured", v.h.tape("x").x.assured(b[0], b[1]), -1);
            Kit.due("the TAPE is empty behind it", v.h.x.end(1), false);
        }
        Kit.due("send of 1001", v.h.tape(new byte[1001]).x.send(0, 0), -1);
        Kit.due("the TAPE is empty behind it", v.h.x.end(1), false);
        Kit.due("assure of 1001", v.h.tape(new byte[1001]).x.assure(0, 0), -1);
        Kit.due("the TAPE is empty behind it", v.h.x.end(1), false);
        Kit.same("the OUT stays", v.h.out(), before);
        Kit.due("send of 1000", v.h.tape(new byte[1000]).x.send(0, 0) > 1000, true);
        Kit.due("its number was the first all the same", v.h.carry().x.receive(0, 1), 1000);
        Kit.due("ends", v.h.x.ends(0), true);
        Kit.due("send behind it", v.h.tape("x").x.send(0, 1), -1);
        Kit.due("receive behind it", v.h.tape("x").x.receive(0, 1), -1);
        Kit.due("assure behind it", v.h.tape("x").x.assure(0, 0), -1);
        Kit.due("assured behind it", v.h.tape("x").x.assured(0, 0), -1);
        Kit.due("hand behind it", v.h.x.hand(0, 0), -1);
        Kit.due("handed behind it", v.h.x.handed(0, 0), -1);
    }

    /** KRB-PRIV and KRB-SAFE have one row of numbers. */
    private static void bothWays() {
        Visit v = new Visit(3);
        byte[] old = null;
        for (int k = 0; k < 8; k++) {
            int side = k & 1;
            boolean safe = (k & 2) != 0;
            byte[] text = new byte[k * 30];
            Arrays.fill(text, (byte) (k * 37));
            v.h.tape(text);
            Kit.due("sent", (safe ? v.h.x.assure(0, side) : v.h.x.send(0, side)) > 0, true);
            byte[] message = v.h.out();
            v.h.carry();
            Kit.due("not for the one that sent it", safe ? v.h.x.assured(0, side) : v.h.x.receive(0, side), -38);
            v.h.carry();
            Kit.due("not of the other kind", safe ? v.h.x.receive(0, 1 - side) : v.h.x.assured(0, 1 - side), -60);
            v.h.carry();
            Kit.due("taken", safe ? v.h.x.assured(0, 1 - side) : v.h.x.receive(0, 1 - side), text.length);
            Kit.same("user-data", v.h.out(), text);
            v.h.tape(message);
            Kit.due("not twice", safe ? v.h.x.assured(0, 1 - side) : v.h.x.receive(0, 1 - side), -42);
            Kit.same("the OUT stays", v.h.out(), text);
            old = message;
        }
        Kit.due("there was one", old != null, true);
        // One that is lost holds up those behind it.
        v.h.tape("lost").x.send(0, 0);
        byte[] lost = v.h.out();
        v.h.tape("next").x.assure(0, 0);
        byte[] next = v.h.out();
        Kit.due("too early", v.h.tape(next).x.assured(0, 1), -42);
        Kit.due("found", v.h.tape(lost).x.receive(0, 1), 4);
        Kit.due("now", v.h.tape(next).x.assured(0, 1), 4);
    }

    private interface Change {
        void to(Forms.Data data);
    }

    private static void duePriv(String what, int want, Change change) {
        Visit v = new Visit(3);
        Forms.Data data = data(Kit.ascii("hello"), Kit.NOW, v.mine, 0);
        change.to(data);
        Kit.due("KRB-PRIV: " + what, v.h.tape(data.priv(v.key)).x.receive(0, 1), want);
        Kit.due("the TAPE is empty behind it", v.h.x.end(1), false);
        v = new Visit(3);
        data = data(Kit.ascii("hello"), Kit.NOW, v.mine, 0);
        change.to(data);
        Kit.due("KRB-SAFE: " + what, v.h.tape(data.safe(v.key)).x.assured(0, 1), want);
        Kit.due("the TAPE is empty behind it", v.h.x.end(1), false);
    }

    private static void receiveInOrder() {
        duePriv("as it should be", 5, d -> { });
        duePriv("without usec, with r-address", 5, d -> {
            d.usec = null;
            d.receiver = Forms.address(1);
        });
        duePriv("no timestamp", -37, d -> {
            d.timestamp = null;
            d.sender = Forms.address(1);
            d.number = null;
        });
        duePriv("timestamp", -37, d -> {
            d.timestamp = Kit.time(Kit.NOW + 301);
            d.sender = Forms.address(1);
            d.number = null;
        });
        duePriv("timestamp, behind", -37, d -> d.timestamp = Kit.time(Kit.NOW - 301));
        duePriv("timestamp, at the edge", 5, d -> d.timestamp = Kit.time(Kit.NOW - 300));
        duePriv("s-address", -38, d -> {
            d.sender = Forms.address(1);
            d.number = null;
        });
        duePriv("s-address's type", -38, d -> d.sender = Kit.pair(3, Kit.bytes(10, 0, 0, 0)));
        duePriv("s-address, other bytes", -38, d -> d.sender = Kit.pair(2, Kit.bytes(10, 1, 0, 0)));
        duePriv("s-address, three bytes", -38, d -> d.sender = Kit.pair(2, Kit.bytes(10, 0, 0)));
        duePriv("s-address, five bytes", -38, d -> d.sender = Kit.pair(2, Kit.bytes(10, 0, 0, 0, 0)));
        duePriv("seq-number missing", -42, d -> d.number = null);
        duePriv("seq-number", -42, d -> d.number = Kit.num(new Kit.Node(d.number).number() + 1));
        Visit v = new Visit(2);
        byte[] no = Kit.encrypted(17, Kit.NONE, Kit.NIL);
        Kit.due("nothing", v.h.x.receive(0, 1), -60);
        Kit.due("pvno", v.h.tape(Forms.Data.priv(Kit.num(4), Kit.num(20), no)).x.receive(0, 1), -3);
        Kit.due("msg-type", v.h.tape(Forms.Data.priv(Kit.num(5), Kit.num(20), no)).x.receive(0, 1), -40);
        Kit.due("not opened", v.h.tape(Forms.Data.priv(Kit.num(5), Kit.num(21), no)).x.receive(0, 1), -31);
        Forms.Data good = data(Kit.ascii("hello"), Kit.NOW, v.mine, 0);
        Kit.due("the ticket's key is not the KEY", v.h.tape(good.priv(Kit.KEY_A)).x.receive(0, 1), -31);
        byte[] sealed = Kit.sealed(v.key, 12, Kit.NONE, Kit.app(28, good.der()));
        Kit.due("another usage", v.h.tape(Forms.Data.priv(Kit.num(5), Kit.num(21), sealed)).x.receive(0, 1), -31);
        sealed = Kit.sealed(v.key, 13, Kit.NONE, Kit.app(27, good.der()));
        Kit.due("no EncKrbPrivPart", v.h.tape(Forms.Data.priv(Kit.num(5), Kit.num(21), sealed)).x.receive(0, 1), -60);
        Kit.due("something behind", v.h.tape(Kit.cat(good.priv(v.key), Kit.bytes(0))).x.receive(0, 1), -60);
        byte[] two = Kit.app(21, Kit.seq(Kit.f(0, Kit.num(5)), Kit.f(1, Kit.num(21)), Kit.f(2, sealed)));
        Kit.due("field 2 is none of it", v.h.tape(two).x.receive(0, 1), -60);
        good.data = Kit.oct(new byte[3000]);
        Kit.due("more than a side may send", v.h.tape(good.priv(v.key)).x.receive(0, 1), 3000);
        Kit.same("user-data", v.h.out(), new byte[3000]);
    }

    private static void assuredInOrder() {
        for (int how = 0; how < 3; how += 2) {
            Visit v = new Visit(how);
            Forms.Data good = data(Kit.ascii("hello"), Kit.NOW - 301, v.mine, 0);
            byte[] sum = Kit.sum(v.key, 15, good.der());
            int type = Kit.typeOf(v.key) - 2;
            Kit.due("nothing", v.h.x.assured(0, 1), -60);
            Kit.due("pvno", v.h.tape(good.safe(Kit.num(4), Kit.num(21), Kit.pair(1, sum))).x.assured(0, 1), -3);
            Kit.due("msg-type", v.h.tape(good.safe(Kit.num(5), Kit.num(21), Kit.pair(1, sum))).x.assured(0, 1), -40);
            Kit.due("cksum's type", v.h.tape(good.safe(Kit.num(5), Kit.num(20), Kit.pair(31 - type, Kit.NIL))).x.assured(0, 1), -50);
            byte[][] others = {Kit.NIL, new byte[12], Arrays.copyOf(sum, 11), Kit.cat(sum, Kit.bytes(0)),
                Kit.sum(v.key, 14, good.der()), Kit.sum(v.key, 15, Kit.f(2, good.der()))};
            for (byte[] other : others) {
                Kit.due("cksum", v.h.tape(good.safe(Kit.num(5), Kit.num(20), Kit.pair(type, other))).x.assured(0, 1), -41);
            }
            Kit.due("timestamp", v.h.tape(good.safe(v.key)).x.assured(0, 1), -37);
            good.timestamp = Kit.time(Kit.NOW);
            Kit.due("something behind", v.h.tape(Kit.cat(good.safe(v.key), Kit.bytes(0))).x.assured(0, 1), -60);
            byte[] changed = good.safe(v.key);
            changed[changed.length - 60] ^= 1;
            Kit.due("a changed byte", v.h.tape(changed).x.assured(0, 1) < 0, true);
            Kit.due("as it should be", v.h.tape(good.safe(v.key)).x.assured(0, 1), 5);
        }
    }

    /** 2^32 is 0: side 0's number begins at the last one, by an authenticator that the test made. */
    private static void numbersGoRound() {
        Kit.House h = Kit.house();
        Forms.Proof proof = new Forms.Proof();
        proof.number = Kit.num(4294967295L);
        Kit.due("serve", h.tape(Forms.visit(Forms.wwwPass(), proof, false)).x.serve(2), 0);
        Kit.due("the last", h.tape(data(Kit.NIL, Kit.NOW, 4294967295L, 0).priv(Kit.KEY_A)).x.receive(0, 1), 0);
        Kit.due("the first", h.tape(data(Kit.bytes(1), Kit.NOW, 0, 0).safe(Kit.KEY_A)).x.assured(0, 1), 1);
        Kit.due("the second", h.tape(data(Kit.bytes(1, 2), Kit.NOW, 1, 0).priv(Kit.KEY_A)).x.receive(0, 1), 2);
        proof.number = null;
        proof.cusec = Kit.num(1);
        Kit.due("serve", h.tape(Forms.visit(Forms.wwwPass(), proof, true)).x.serve(2), 1);
        Kit.due("no number is 0", h.tape(data(Kit.NIL, Kit.NOW, 0, 0).priv(Kit.KEY_A)).x.receive(1, 1), 0);
        h.x.send(1, 1);
        Kit.Node part = new Kit.Node(Kit.opened(Kit.KEY_A, 13, h.node().down(3)));
        Kit.same("nor is the other's", part.down(3).whole, Kit.num(0));
        proof.number = Kit.num(2147483648L);
        proof.cusec = Kit.num(2);
        Kit.due("serve", h.tape(Forms.visit(Forms.wwwPass(), proof, false)).x.serve(2), 2);
        Kit.due("2^31", h.tape(data(Kit.NIL, Kit.NOW, 2147483648L, 0).priv(Kit.KEY_A)).x.receive(2, 1), 0);
        Kit.due("2^31 + 1", h.tape(data(Kit.NIL, Kit.NOW, 2147483649L, 0).priv(Kit.KEY_A)).x.receive(2, 1), 0);
    }

    private static void clocks() {
        Visit v = new Visit(3);
        v.h.x.shift(0, 301);
        v.h.tape("a").x.send(0, 0);
        Kit.due("side 0 is ahead", v.h.carry().x.receive(0, 1), -37);
        v.h.tape("b").x.send(0, 1);
        Kit.due("side 1 is behind", v.h.carry().x.receive(0, 0), -37);
        v.h.x.shift(0, 300);
        Kit.due("just in time", v.h.carry().x.receive(0, 0), 1);
        v.h.x.shift(0, 0);
        v.h.x.clock(0);
        v.h.tape("c").x.send(0, 1);
        Kit.due("the time 0 is one, too", v.h.carry().x.receive(0, 0), 1);
    }

    private static void handWhole() {
        for (int k = 0; k < 2; k++) {
            Visit v = new Visit(2 + k);
            // A ticket told with everything, and one without starttime and renew-till.
            v.h.request(0, 0, 0, "krbtgt/HOUSE", 0, 4, 36000);
            Forms.Reply reply = new Forms.Reply();
            reply.nonce = v.h.node().down(4, 7).whole;
            Forms.Pass pass = new Forms.Pass();
            pass.sname = Kit.name(31, "krbtgt", "HOUSE");
            reply.ticket = pass.der();
            reply.cname = Kit.name(-8, "anna");
            reply.flags = Kit.flags(0x81234567);
            reply.starttime = k == 0 ? Kit.time(Kit.NOW + 5) : null;
            reply.renewTill = k == 0 ? Kit.time(Kit.NOW + 9) : null;
            reply.key = Kit.key(k == 0 ? Kit.KEY_B : Kit.KEY_A);
            Kit.due("take", v.h.tape(reply.der()).x.take(0), 1);
            v.h.x.shift(0, 12);
            v.h.tape("hands").x.seed();
            v.h.tape("stays");
            int size = v.h.x.hand(0, 1);
            Forms.Cred cred = new Forms.Cred();
            cred.tickets = Kit.seq(reply.ticket);
            cred.key = reply.key;
            cred.pname = reply.cname;
            cred.flags = reply.flags;
            cred.authtime = reply.authtime;
            cred.starttime = reply.starttime;
            cred.endtime = reply.endtime;
            cred.renewTill = reply.renewTill;
            cred.sname = pass.sname;
            cred.timestamp = Kit.time(Kit.NOW + 12);
            byte[] sealed = Kit.encrypted(Kit.typeOf(v.key), Kit.NONE,
                Kit.seal(v.key, 14, new Kit.Coins(Kit.ascii("hands")).next(16), cred.text()));
            byte[] want = Kit.app(22, Kit.seq(Kit.f(0, Kit.num(5)), Kit.f(1, Kit.num(22)), Kit.f(2, cred.tickets),
                Kit.f(3, sealed)));
            Kit.same("KRB-CRED", v.h.out(), want);
            Kit.due("its size", size, want.length);
            Kit.due("the TAPE is not taken", v.h.x.end(5), true);
            Kit.due("no such TICKET", v.h.x.hand(0, 2), -1);
            Kit.due("no such TICKET", v.h.x.hand(0, -1), -1);
            Kit.due("no such TICKET", v.h.x.hand(0, 8), -1);
            Kit.due("no such SESSION", v.h.x.hand(1, 0), -1);
            Kit.due("no such SESSION", v.h.x.hand(-1, 0), -1);
            Kit.same("the OUT stays", v.h.out(), want);
            v.h.agent(0, "anna:secret", 2);
            Kit.due("joined no more", v.h.x.hand(0, 0), -1);
        }
        Kit.House h = Kit.house();
        h.agent(0, "anna:secret", 2);
        h.fetch(0, 1, 0, "krbtgt/HOUSE", 0, 4, 36000);
        h.fetch(0, 2, 0, "http/www", 0, 4, 36000);
        h.x.present(0, 1, 0);
        h.carry().x.serve(2);
        Kit.due("not joined", h.x.hand(0, 0), -1);
    }

    private interface CredChange {
        void to(Forms.Cred cred);
    }

    private static void dueHanded(String what, int want, CredChange change) {
        Visit v = new Visit(3);
        v.h.agent(1, "otto:x", 1);
        Forms.Cred cred = new Forms.Cred();
        change.to(cred);
        Kit.due("handed: " + what, v.h.tape(cred.der(v.key)).x.handed(0, 1), want);
        Kit.due("the TAPE is empty behind it", v.h.x.end(1), false);
    }

    private static void handedInOrder() {
        dueHanded("as it should be", 0, c -> { });
        dueHanded("all that may be missing", 0, c -> {
            c.prealm = null;
            c.starttime = null;
            c.renewTill = null;
            c.srealm = null;
            c.sname = null;
            c.usec = null;
        });
        dueHanded("all that may be there", 0, c -> {
            c.nonce = Kit.num(4294967295L);
            c.caddr = Kit.seq(Kit.pair(2, Kit.NIL));
            c.sname = Kit.ANNA_NAME;
        });
        byte[] ticket = new Forms.Pass().der();
        dueHanded("no ticket", -60, c -> {
            c.tickets = Kit.seq();
            c.pvno = Kit.num(4);
        });
        dueHanded("two tickets", -60, c -> c.tickets = Kit.seq(ticket, ticket));
        dueHanded("pvno", -3, c -> {
            c.pvno = Kit.num(4);
            c.type = Kit.num(4);
        });
        dueHanded("msg-type", -40, c -> c.type = Kit.num(21));
        dueHanded("no EncKrbCredPart", -60, c -> c.part = 28);
        dueHanded("no ticket-info", -60, c -> c.infos = Kit.seq());
        dueHanded("two ticket-infos", -60, c -> c.infos = Kit.seq(c.info(), c.info()));
        dueHanded("no key", -60, c -> c.key = null);
        dueHanded("no pname", -60, c -> {
            c.pname = null;
            c.timestamp = null;
        });
        dueHanded("no flags", -60, c -> c.flags = null);
        dueHanded("no authtime", -60, c -> c.authtime = null);
        dueHanded("no endtime", -60, c -> c.endtime = null);
        dueHanded("no timestamp", -37, c -> {
            c.timestamp = null;
            c.pname = Kit.name(1, "x".repeat(39));
        });
        dueHanded("timestamp", -37, c -> c.timestamp = Kit.time(Kit.NOW + 301));
        dueHanded("timestamp", -37, c -> c.timestamp = Kit.time(Kit.NOW - 301));
        dueHanded("timestamp, at the edge", 0, c -> c.timestamp = Kit.time(Kit.NOW + 300));
        dueHanded("pname's parts, 41 bytes", -60, c -> {
            c.pname = Kit.name(1, "x".repeat(39));
            c.key = Kit.pair(23, new byte[16]);
        });
        dueHanded("pname's parts, 40 bytes", 0, c -> c.pname = Kit.name(1, "x".repeat(38)));
        dueHanded("key's type", -14, c -> c.key = Kit.pair(23, new byte[16]));
        dueHanded("key's length", -14, c -> c.key = Kit.pair(17, new byte[32]));
        Visit v = new Visit(3);
        v.h.agent(1, "otto:x", 1);
        byte[] good = new Forms.Cred().der(v.key);
        Kit.due("something behind", v.h.tape(Kit.cat(good, Kit.bytes(0))).x.handed(0, 1), -60);
        Kit.due("another key", v.h.tape(new Forms.Cred().der(Kit.KEY_A)).x.handed(0, 1), -31);
        Kit.due("no AGENT", v.h.tape(good).x.handed(0, 2), -1);
        Kit.due("the TAPE is empty behind it", v.h.x.end(1), false);
        Kit.due("no SESSION", v.h.tape(good).x.handed(1, 1), -1);
        Kit.due("no SESSION", v.h.tape(good).x.handed(-1, 1), -1);
    }

    /** No seq-number: it may be taken again, until no TICKET is free. */
    private static void handedOften() {
        Visit v = new Visit(3);
        v.h.agent(1, "otto:x", 1);
        v.h.x.shift(1, 100000);
        v.h.x.hand(0, 0);
        for (int w = 0; w < 8; w++) {
            Kit.due("it may be taken again, and the CLOCK counts", v.h.carry().x.handed(0, 1), w);
        }
        Kit.due("no TICKET is free", v.h.carry().x.handed(0, 1), -2);
        Kit.due("another AGENT has its own", v.h.carry().x.handed(0, 0), 1);
        v.h.x.drop(1, 6);
        v.h.x.drop(1, 4);
        Kit.due("the lowest that is free", v.h.carry().x.handed(0, 1), 4);
        Kit.due("the next", v.h.carry().x.handed(0, 1), 6);
    }

    /** What was handed over is a TICKET as told, and does what the one it came from did. */
    private static void handedAgain() {
        Visit v = new Visit(3);
        v.h.agent(2, "otto:x", 1);
        Forms.Cred cred = new Forms.Cred();
        Kit.due("handed", v.h.tape(cred.der(v.key)).x.handed(0, 2), 0);
        long[] want = {0x40E00000, Kit.NOW - 5, Kit.NOW - 4, Kit.NOW + 500, Kit.NOW + 900, 17};
        for (int what = 0; what < want.length; what++) {
            Kit.due("ticket " + what, v.h.x.ticket(2, 0, what), want[what]);
        }
        cred.starttime = null;
        cred.renewTill = null;
        Kit.due("handed", v.h.tape(cred.der(v.key)).x.handed(0, 2), 1);
        Kit.due("no starttime", v.h.x.ticket(2, 1, 2), -1);
        Kit.due("no renew-till", v.h.x.ticket(2, 1, 4), -1);
        v.h.x.present(2, 1, 0);
        Kit.same("as it came", v.h.node().down(3).whole, new Forms.Pass().der());
        Kit.Node proof = new Kit.Node(Kit.opened(Kit.KEY_B, 11, v.h.node().down(4)));
        Kit.same("crealm", proof.down(1).whole, Kit.text("HOUSE"));
        Kit.same("cname as told", proof.down(2).whole, Kit.ANNA_NAME);
        // From end to end: anna's TGT goes with otto, who asks the centre for http/www as anna.
        Kit.House h = Kit.house();
        h.agent(0, "anna:secret", 2);
        h.agent(1, "otto:x", 1);
        h.fetch(0, 1, 0, "krbtgt/HOUSE", 0x40000000, 4, 36000);
        h.fetch(0, 2, 0, "http/www", 0, 4, 36000);
        h.fetch(0, 2, 0, "krbtgt/HOUSE", 0x20000000, 4, 36000);
        h.x.present(0, 1, 3);
        h.carry().x.serve(2);
        h.carry().x.met(0);
        h.x.joins(0, 0);
        h.x.hand(0, 2);
        Kit.due("handed", h.carry().x.handed(0, 1), 0);
        Kit.due("forwarded", h.x.ticket(1, 0, 0) & 0x20000000, 0x20000000);
        Kit.due("as anna", h.fetch(1, 2, 0, "http/www", 0, 4, 36000), 1);
        Kit.due("goes", h.x.present(1, 1, 2) > 0, true);
        Kit.due("is let in", h.carry().x.serve(2), 1);
        Kit.due("joins", h.x.joins(1, 1), true);
        h.tape("as anna").x.send(1, 0);
        Kit.due("is heard", h.carry().x.receive(1, 1), 7);
    }
}
