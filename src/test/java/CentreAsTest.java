/** Promise 12, kdc: what it answers to an AS-REQ, and its errors in their order. */
public final class CentreAsTest {
    private static final int FORWARDABLE = 0x40000000;
    private static final int PROXIABLE = 0x10000000;
    private static final int RENEWABLE = 0x00800000;
    private static final int RENEWABLE_OK = 0x10;

    public static void main(String[] args) {
        wholeReply();
        wholeReplyOfSeventeen();
        unread();
        order();
        options();
        shownAhead();
        methods();
        flags();
        times();
        renewTill();
        addresses();
        Kit.finish();
    }

    private static byte[] info(int type) {
        return Kit.seq(Kit.f(0, Kit.num(type)), Kit.f(1, Kit.text("HOUSEanna")), Kit.f(2, Kit.oct(Kit.word(2))));
    }

    /** The AS-REP byte by byte, and the order of its COINS. */
    private static void wholeReply() {
        Kit.House h = Kit.house();
        Forms.Body body = Forms.asBody();
        body.cname = Kit.name(77, "anna");
        body.sname = Kit.name(-5, "http", "www");
        body.options = Kit.flags(FORWARDABLE | RENEWABLE);
        body.nonce = Kit.num(4294967295L);
        body.addresses = Kit.seq(Kit.pair(2, Kit.bytes(1, 2, 3, 4)), Kit.pair(-7, Kit.NIL));
        Kit.due("kdc", h.kdc(Forms.asReq(body, Forms.shownAnna())), 0);
        Kit.Coins coins = new Kit.Coins(Kit.ascii("coins"));
        byte[] key = coins.next(32);
        byte[] times = Kit.cat(Kit.f(5, Kit.time(Kit.NOW)), Kit.f(6, Kit.time(Kit.NOW)),
            Kit.f(7, Kit.time(Kit.NOW + 36000)), Kit.f(8, Kit.time(Kit.NOW + 72000)));
        byte[] part = Kit.app(3, Kit.seq(Kit.f(0, Kit.flags(0x40E00000)), Kit.f(1, Kit.key(key)),
            Kit.f(2, Kit.text("HOUSE")), Kit.f(3, body.cname), Kit.f(4, Kit.pair(1, Kit.NIL)), times,
            Kit.f(9, body.addresses)));
        byte[] ticket = Kit.app(1, Kit.seq(Kit.f(0, Kit.num(5)), Kit.f(1, Kit.text("HOUSE")), Kit.f(2, body.sname),
            Kit.f(3, Kit.encrypted(18, 1, Kit.seal(Kit.WWW_18, 2, coins.next(16), part)))));
        byte[] told = Kit.app(25, Kit.seq(Kit.f(0, Kit.key(key)),
            Kit.f(1, Kit.seq(Kit.seq(Kit.f(0, Kit.num(0)), Kit.f(1, Kit.time(Kit.NOW))))), Kit.f(2, body.nonce),
            Kit.f(4, Kit.flags(0x40E00000)), times, Kit.f(9, Kit.text("HOUSE")), Kit.f(10, body.sname),
            Kit.f(11, body.addresses)));
        byte[] reply = Kit.app(11, Kit.seq(Kit.f(0, Kit.num(5)), Kit.f(1, Kit.num(11)),
            Kit.f(2, Kit.seq(Kit.pa(19, Kit.seq(info(18))))), Kit.f(3, Kit.text("HOUSE")), Kit.f(4, body.cname),
            Kit.f(5, ticket), Kit.f(6, Kit.encrypted(18, 1, Kit.seal(Kit.ANNA_18, 3, coins.next(16), told)))));
        Kit.same("AS-REP", h.out(), reply);
        Kit.due("the TAPE is empty behind it", h.x.end(1), false);
    }

    /** E is the first of 17 and 18 that was asked for; the ticket itself is sealed by 18. */
    private static void wholeReplyOfSeventeen() {
        Kit.House h = Kit.house();
        h.tape("new").x.change(1, 9);
        byte[] latest17 = Kit.stringToKey(17, "new", "HOUSEanna", 9);
        Forms.Body body = Forms.asBody();
        body.etype = Forms.etypes(23, -1, 17, 18, 17);
        Kit.due("kdc", h.kdc(Forms.asReq(body, Forms.shown(latest17, Kit.NOW))), 0);
        Kit.Node reply = h.node();
        Kit.due("its type", reply.down(6, 0).number(), 17);
        Kit.due("its kvno", reply.down(6, 1).number(), 2);
        Kit.Node part = new Kit.Node(Kit.opened(latest17, 3, reply.down(6)));
        Kit.same("its key", part.down(0).whole, Kit.key(new Kit.Coins(Kit.ascii("coins")).next(16)));
        Kit.due("the ticket's type", reply.down(5, 3, 0).number(), 18);
        Kit.due("the ticket opens", Kit.opened(Kit.TGS_18, 2, reply.down(5, 3)) != null, true);
        Kit.same("padata tells E alone", reply.down(2).whole, Kit.seq(Kit.pa(19, Kit.seq(Kit.seq(Kit.f(0, Kit.num(17)),
            Kit.f(1, Kit.text("HOUSEanna")), Kit.f(2, Kit.oct(Kit.word(9))))))));
        Kit.due("the key before the latest shows nothing",
            h.kdc(Forms.asReq(body, Forms.shown(Kit.ANNA_17, Kit.NOW))), 24);
    }

    private static void refused(String what, Kit.House h, byte[] request, int code, byte[] want) {
        Kit.due(what, h.kdc(request), code);
        Kit.same(what, h.out(), want);
        Kit.due("the TAPE is empty behind it", h.x.end(1), false);
    }

    private static byte[] error(int code, Forms.Body body) {
        return Kit.error(Kit.NOW, code, body.cname == null ? null : body.realm, body.cname,
            body.sname == null ? Kit.TGS_NAME : body.sname, null);
    }

    private static void unread() {
        Kit.House h = Kit.house();
        byte[] want = Kit.error(Kit.NOW, 60, null, null, Kit.TGS_NAME, null);
        byte[] good = Forms.asReq(Forms.asBody(), Forms.shownAnna());
        refused("nothing", h, Kit.NIL, 60, want);
        refused("one byte", h, Kit.bytes(106), 60, want);
        refused("something behind", h, Kit.cat(good, Kit.bytes(0)), 60, want);
        byte[] other = good.clone();
        other[0] = 107;
        refused("another first byte", h, other, 60, want);
        refused("cut", h, java.util.Arrays.copyOf(good, good.length - 1), 60, want);
    }

    /** Each step leaves one thing wrong less: the code of the first that is so. */
    private static void order() {
        Kit.House h = Kit.house();
        Forms.Body body = new Forms.Body();
        body.sname = null;
        body.realm = Kit.text("OTHER");
        body.options = Kit.flags(1);
        body.from = Kit.time(Kit.NOW + 301);
        body.etype = Forms.etypes(23);
        body.till = Kit.time(Kit.NOW);
        byte[] der = body.der();
        refused("pvno", h, Kit.app(10, Kit.seq(Kit.f(1, Kit.num(4)), Kit.f(2, Kit.num(12)), Kit.f(4, der))), 3,
            error(3, body));
        refused("msg-type", h, Kit.app(10, Kit.seq(Kit.f(1, Kit.num(5)), Kit.f(2, Kit.num(12)), Kit.f(4, der))), 40,
            error(40, body));
        refused("no sname", h, Forms.asReq(body), 7, error(7, body));
        body.sname = Kit.name(3, "nobody");
        refused("realm", h, Forms.asReq(body), 68, error(68, body));
        body.cname = Kit.name(1, "nobody");
        refused("realm, with a cname", h, Forms.asReq(body), 68, error(68, body));
        body.cname = null;
        body.realm = Kit.text("HOUSE");
        refused("no cname", h, Forms.asReq(body), 6, error(6, body));
        byte[][] strangers = {Kit.name(1, "nobody"), Kit.name(1), Kit.name(1, "anna", ""), Kit.name(1, "ann"),
            Kit.name(1, "annaa"), Kit.name(1, "http/www"), Kit.name(1, "http", "www", "x"), Kit.name(1, "Anna")};
        for (byte[] stranger : strangers) {
            body.cname = stranger;
            refused("cname", h, Forms.asReq(body), 6, error(6, body));
        }
        body.cname = Kit.ANNA_NAME;
        h.x.policy(1, 2, 32 + 1);
        h.x.policy(1, 3, Kit.NOW);
        refused("locked", h, Forms.asReq(body), 18, error(18, body));
        h.x.policy(1, 2, 16 + 15);
        refused("expired", h, Forms.asReq(body), 1, error(1, body));
        h.x.policy(1, 3, Kit.NOW + 1);
        refused("sname", h, Forms.asReq(body), 7, error(7, body));
        body.sname = Kit.WWW_NAME;
        h.x.policy(2, 3, Kit.NOW - 1);
        h.x.policy(2, 2, 32);
        refused("locked service", h, Forms.asReq(body), 12, error(12, body));
        h.x.policy(2, 2, 16);
        refused("no service", h, Forms.asReq(body), 12, error(12, body));
        h.x.policy(2, 2, 15);
        refused("expired service", h, Forms.asReq(body), 2, error(2, body));
        h.x.policy(2, 3, 0);
        refused("options", h, Forms.asReq(body), 13, error(13, body));
        body.options = Kit.flags(0);
        refused("from", h, Forms.asReq(body), 10, error(10, body));
        body.from = Kit.time(Kit.NOW + 300);
        refused("etype", h, Forms.asReq(body), 14, error(14, body));
        body.etype = Forms.etypes();
        refused("no etype", h, Forms.asReq(body), 14, error(14, body));
        body.etype = Forms.etypes(19, 18);
        Kit.due("not shown", h.kdc(Forms.asReq(body)), 25);
        refused("shown wrong", h, Forms.asReq(body, Kit.pa(2, Kit.NIL)), 24, error(24, body));
        refused("late", h, Forms.asReq(body, Forms.shown(Kit.ANNA_18, Kit.NOW - 301)), 37, error(37, body));
        refused("never valid", h, Forms.asReq(body, Forms.shownAnna()), 11, error(11, body));
        body.till = Kit.time(Kit.NOW + 1);
        Kit.due("all right", h.kdc(Forms.asReq(body, Forms.shownAnna())), 0);
    }

    private static void options() {
        Kit.House h = Kit.house();
        h.x.policy(1, 2, 14);
        Forms.Body body = Forms.asBody();
        for (int bit = 0; bit < 32; bit++) {
            boolean may = bit == 1 || bit == 3 || bit == 8 || bit == 15 || bit == 26 || bit == 27;
            body.options = Kit.flags(1 << (31 - bit));
            Kit.due("option " + bit, h.kdc(Forms.asReq(body)), may ? 0 : 13);
        }
        body.options = Kit.tlv(3, Kit.bytes(0, 0, 0, 0, 0, 1));
        Kit.due("option 39", h.kdc(Forms.asReq(body)), 13);
        body.options = Kit.tlv(3, Kit.bytes(0, 0, 0, 0, 0, 0, 0, 0x80));
        Kit.due("option 48", h.kdc(Forms.asReq(body)), 13);
        body.options = Kit.tlv(3, Kit.bytes(0, 0x40, 0, 0, 0, 0, 0));
        Kit.due("noughts behind", h.kdc(Forms.asReq(body)), 0);
    }

    private static void shownAhead() {
        Kit.House h = Kit.house();
        Forms.Body body = Forms.asBody();
        byte[] text = Kit.seq(Kit.f(0, Kit.time(Kit.NOW)));
        byte[] good = Kit.sealed(Kit.ANNA_18, 1, Kit.NONE, text);
        Kit.due("without pausec", h.kdc(Forms.asReq(body, Kit.pa(2, good))), 0);
        Kit.due("by the key of 17", h.kdc(Forms.asReq(body, Forms.shown(Kit.ANNA_17, Kit.NOW))), 0);
        Kit.due("a kvno is not looked at",
            h.kdc(Forms.asReq(body, Kit.pa(2, Kit.sealed(Kit.ANNA_18, 1, 99, text)))), 0);
        Kit.due("300 seconds ahead", h.kdc(Forms.asReq(body, Forms.shown(Kit.ANNA_18, Kit.NOW + 300))), 0);
        Kit.due("301 seconds ahead", h.kdc(Forms.asReq(body, Forms.shown(Kit.ANNA_18, Kit.NOW + 301))), 37);
        Kit.due("300 seconds behind", h.kdc(Forms.asReq(body, Forms.shown(Kit.ANNA_18, Kit.NOW - 300))), 0);
        Kit.due("another usage", h.kdc(Forms.asReq(body, Kit.pa(2, Kit.sealed(Kit.ANNA_18, 2, Kit.NONE, text)))), 24);
        Kit.due("another key", h.kdc(Forms.asReq(body, Forms.shown(Kit.WWW_18, Kit.NOW))), 24);
        Kit.due("another text",
            h.kdc(Forms.asReq(body, Kit.pa(2, Kit.sealed(Kit.ANNA_18, 1, Kit.NONE, Kit.time(Kit.NOW))))), 24);
        Kit.due("another type", h.kdc(Forms.asReq(body,
            Kit.pa(2, Kit.encrypted(23, Kit.NONE, Kit.seal(Kit.ANNA_18, 1, new byte[16], text))))), 24);
        Kit.due("something behind", h.kdc(Forms.asReq(body, Kit.pa(2, Kit.cat(good, Kit.bytes(0))))), 24);
        Kit.due("27 bytes", h.kdc(Forms.asReq(body, Kit.pa(2, Kit.encrypted(18, Kit.NONE, new byte[27])))), 24);
        Kit.due("28 bytes of no text", h.kdc(Forms.asReq(body,
            Kit.pa(2, Kit.sealed(Kit.ANNA_18, 1, Kit.NONE, Kit.NIL)))), 24);
        Kit.due("no bytes", h.kdc(Forms.asReq(body, Kit.pa(2, Kit.encrypted(18, Kit.NONE, Kit.NIL)))), 24);
        Kit.due("the first counts", h.kdc(Forms.asReq(body, Kit.pa(2, Kit.NIL), Kit.pa(2, good))), 24);
        Kit.due("others before it do not", h.kdc(Forms.asReq(body, Kit.pa(1, Kit.NIL), Kit.pa(-2, Kit.NIL), Kit.pa(2, good),
            Kit.pa(2, Kit.NIL))), 0);
        h.x.policy(1, 2, 14);
        Kit.due("not looked at if it need not", h.kdc(Forms.asReq(body, Kit.pa(2, Kit.NIL))), 0);
        Kit.due("nor wanted", h.kdc(Forms.asReq(body)), 0);
    }

    private static void methods() {
        Kit.House h = Kit.house();
        int[][] asked = {{18, 17}, {17, 18}, {18}, {17}, {1, 17, 17, 3, 18}};
        int[][] told = {{18, 17}, {17, 18}, {18}, {17}, {17, 18}};
        for (int k = 0; k < asked.length; k++) {
            Forms.Body body = Forms.asBody();
            body.etype = Forms.etypes(asked[k]);
            byte[] entries = Kit.NIL;
            for (int type : told[k]) {
                entries = Kit.cat(entries, info(type));
            }
            byte[] data = Kit.seq(Kit.pa(2, Kit.NIL), Kit.pa(19, Kit.seq(entries)));
            refused("not shown", h, Forms.asReq(body, Kit.pa(1, Kit.NIL)), 25,
                Kit.error(Kit.NOW, 25, body.realm, body.cname, body.sname, data));
        }
    }

    private static int flagsOf(Kit.House h, int options, int till) {
        Forms.Body body = Forms.asBody();
        body.sname = Kit.WWW_NAME;
        body.options = Kit.flags(options);
        body.till = Kit.time(till);
        Kit.due("kdc", h.kdc(Forms.asReq(body, Forms.shownAnna())), 0);
        Kit.Node part = new Kit.Node(Kit.opened(Kit.WWW_18, 2, h.node().down(5, 3)));
        Kit.Node told = new Kit.Node(Kit.opened(Kit.ANNA_18, 3, h.node().down(6)));
        Kit.same("told as sealed", told.down(4).whole, part.down(0).whole);
        byte[] bits = part.down(0).inner;
        return (bits[1] & 255) << 24 | (bits[2] & 255) << 16 | (bits[3] & 255) << 8 | bits[4] & 255;
    }

    private static void flags() {
        int all = FORWARDABLE | PROXIABLE | RENEWABLE;
        int[] bits = {FORWARDABLE, PROXIABLE, RENEWABLE};
        Kit.House h = Kit.house();
        Kit.due("none asked for", flagsOf(h, 0, Kit.NOW + 100), 0x00600000);
        Kit.due("all asked for", flagsOf(h, all, Kit.NOW + 100), 0x00600000 | all);
        for (int k = 0; k < 3; k++) {
            Kit.due("one asked for", flagsOf(h, bits[k], Kit.NOW + 100), 0x00600000 | bits[k]);
            h.x.policy(1, 2, 15 & ~(2 << k));
            Kit.due("the client may not", flagsOf(h, all, Kit.NOW + 100), 0x00600000 | all & ~bits[k]);
            h.x.policy(1, 2, 15);
            h.x.policy(2, 2, 15 & ~(2 << k));
            Kit.due("the service may not", flagsOf(h, all, Kit.NOW + 100), 0x00600000 | all & ~bits[k]);
            h.x.policy(2, 2, 15);
        }
        h.x.policy(1, 2, 14);
        Kit.due("not shown ahead", flagsOf(h, 0, Kit.NOW + 100), 0x00400000);
        Kit.due("renewable-ok, till is reached", flagsOf(h, RENEWABLE_OK, Kit.NOW + 36000), 0x00400000);
        Kit.due("renewable-ok, till is later", flagsOf(h, RENEWABLE_OK, Kit.NOW + 36001), 0x00C00000);
        Kit.due("renewable-ok, without end", flagsOf(h, RENEWABLE_OK, 0), 0x00C00000);
        h.x.policy(2, 2, 6);
        Kit.due("renewable-ok, but it may not", flagsOf(h, RENEWABLE_OK, 0), 0x00400000);
    }

    /** endtime and renew-till, -1 if there is none. */
    private static void dueTimes(Kit.House h, Forms.Body body, long end, long renew) {
        Kit.due("kdc", h.kdc(Forms.asReq(body, Forms.shownAnna())), 0);
        Kit.Node part = new Kit.Node(Kit.opened(Kit.WWW_18, 2, h.node().down(5, 3)));
        Kit.Node told = new Kit.Node(Kit.opened(Kit.ANNA_18, 3, h.node().down(6)));
        for (Kit.Node node : new Kit.Node[] {part, told}) {
            Kit.same("endtime", node.down(7).whole, Kit.time(end));
            Kit.due("renew-till", node.down(8) != null, renew >= 0);
            if (renew >= 0) {
                Kit.same("renew-till", node.down(8).whole, Kit.time(renew));
            }
        }
    }

    private static Forms.Body wwwBody(int options, long till, long rtime) {
        Forms.Body body = Forms.asBody();
        body.sname = Kit.WWW_NAME;
        body.options = Kit.flags(options);
        body.till = Kit.time(till);
        body.rtime = Kit.timeOrNone(rtime);
        return body;
    }

    private static void times() {
        Kit.House h = Kit.house();
        dueTimes(h, wwwBody(0, Kit.NOW + 1, Kit.NONE), Kit.NOW + 1, -1);
        dueTimes(h, wwwBody(0, 0, Kit.NONE), Kit.NOW + 36000, -1);
        dueTimes(h, wwwBody(0, 2145916799, Kit.NOW + 5), Kit.NOW + 36000, -1);
        h.x.policy(1, 0, 500);
        dueTimes(h, wwwBody(0, 0, Kit.NONE), Kit.NOW + 500, -1);
        h.x.policy(2, 0, 400);
        dueTimes(h, wwwBody(0, 0, Kit.NONE), Kit.NOW + 400, -1);
        dueTimes(h, wwwBody(0, Kit.NOW + 399, Kit.NONE), Kit.NOW + 399, -1);
        Kit.due("till is the CLOCK", h.kdc(Forms.asReq(wwwBody(0, Kit.NOW, Kit.NONE), Forms.shownAnna())), 11);
        Kit.due("till is past", h.kdc(Forms.asReq(wwwBody(0, 1, Kit.NONE), Forms.shownAnna())), 11);
        h.x.clock(2000000000);
        h.x.policy(1, 0, 1000000);
        h.x.policy(2, 0, 1000000);
        h.x.policy(1, 1, 10000000);
        h.x.policy(2, 1, 10000000);
        h.x.policy(1, 2, 14);
        dueTimes(h, wwwBody(RENEWABLE, 0, Kit.NONE), 2001000000, 2010000000);
        h.x.clock(0);
        dueTimes(h, wwwBody(RENEWABLE, 0, 0), 1000000, 10000000);
    }

    private static void renewTill() {
        Kit.House h = Kit.house();
        dueTimes(h, wwwBody(RENEWABLE, 0, Kit.NONE), Kit.NOW + 36000, Kit.NOW + 72000);
        dueTimes(h, wwwBody(RENEWABLE, 0, 0), Kit.NOW + 36000, Kit.NOW + 72000);
        dueTimes(h, wwwBody(RENEWABLE, 0, Kit.NOW + 71999), Kit.NOW + 36000, Kit.NOW + 71999);
        dueTimes(h, wwwBody(RENEWABLE, 0, Kit.NOW + 5), Kit.NOW + 36000, Kit.NOW + 5);
        dueTimes(h, wwwBody(RENEWABLE, 0, 1), Kit.NOW + 36000, 1);
        dueTimes(h, wwwBody(RENEWABLE, Kit.NOW + 5, Kit.NOW + 72001), Kit.NOW + 5, Kit.NOW + 72000);
        // renewable-ok alone: till counts, not rtime.
        dueTimes(h, wwwBody(RENEWABLE_OK, Kit.NOW + 36001, Kit.NOW + 5), Kit.NOW + 36000, Kit.NOW + 36001);
        dueTimes(h, wwwBody(RENEWABLE_OK, 0, Kit.NOW + 5), Kit.NOW + 36000, Kit.NOW + 72000);
        dueTimes(h, wwwBody(RENEWABLE_OK, Kit.NOW + 99999, Kit.NONE), Kit.NOW + 36000, Kit.NOW + 72000);
        dueTimes(h, wwwBody(RENEWABLE_OK, Kit.NOW + 36000, Kit.NONE), Kit.NOW + 36000, -1);
        dueTimes(h, wwwBody(RENEWABLE | RENEWABLE_OK, Kit.NOW + 36001, Kit.NOW + 7), Kit.NOW + 36000, Kit.NOW + 7);
        h.x.policy(1, 1, 300);
        dueTimes(h, wwwBody(RENEWABLE, 0, Kit.NONE), Kit.NOW + 36000, Kit.NOW + 300);
        h.x.policy(2, 1, 200);
        dueTimes(h, wwwBody(RENEWABLE, 0, Kit.NONE), Kit.NOW + 36000, Kit.NOW + 200);
    }

    private static void addresses() {
        Kit.House h = Kit.house();
        Forms.Body body = wwwBody(0, 0, Kit.NONE);
        body.addresses = Kit.seq(Kit.pair(20, new byte[3600]));
        Kit.due("kdc", h.kdc(Forms.asReq(body, Forms.shownAnna())), 0);
        Kit.Node part = new Kit.Node(Kit.opened(Kit.WWW_18, 2, h.node().down(5, 3)));
        Kit.Node told = new Kit.Node(Kit.opened(Kit.ANNA_18, 3, h.node().down(6)));
        Kit.same("caddr sealed", part.down(9).whole, body.addresses);
        Kit.same("caddr told", told.down(11).whole, body.addresses);
        body.addresses = null;
        Kit.due("kdc", h.kdc(Forms.asReq(body, Forms.shownAnna())), 0);
        part = new Kit.Node(Kit.opened(Kit.WWW_18, 2, h.node().down(5, 3)));
        Kit.due("no caddr", part.down(9) == null, true);
    }
}
