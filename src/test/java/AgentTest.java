/** Promises 13 to 19: agent, shift, request, take, ticket, drop, present. */
public final class AgentTest {
    public static void main(String[] args) {
        agent();
        agentBeginsAnew();
        shift();
        requestRefused();
        asReq();
        asReqShown();
        tgsReq();
        nonces();
        takeInOrder();
        takeAsThatAskedForRenew();
        takeRenewed();
        takeTgs();
        takeErrors();
        takeOnce();
        takeMore();
        wallet();
        ticketAndDrop();
        present();
        Kit.finish();
    }

    private static Kit.House withAnna() {
        Kit.House h = Kit.house();
        h.agent(0, "anna:secret", 2);
        return h;
    }

    private static void agent() {
        Kit.House h = new Kit.House();
        for (int a = 0; a < 4; a++) {
            Kit.due("agent " + a, h.agent(a, "who" + a + "/is1:pw", 200), true);
            Kit.due("the TAPE is empty behind it", h.x.end(1), false);
        }
        Kit.due("agent -1", h.agent(-1, "anna:secret", 2), false);
        Kit.due("the TAPE is empty behind it", h.x.end(1), false);
        Kit.due("agent 4", h.agent(4, "anna:secret", 2), false);
        Kit.due("COUNT 0", h.agent(0, "anna:secret", 0), false);
        Kit.due("COUNT 201", h.agent(0, "anna:secret", 201), false);
        String[] bad = {"", "anna", ":x", "krbtgt/HOUSE:", "Anna:x", "a/b/c:x", "a:012345678901234567890", "a:\u0007"};
        for (String text : bad) {
            Kit.due("agent '" + text + "'", h.agent(0, text, 1), false);
            Kit.due("the TAPE is empty behind it", h.x.end(1), false);
        }
        h.request(0, 0, 0, "x", 0, 1, 0);
        Kit.same("the one before stays", h.node().down(4, 1).whole, Kit.name(1, "who0", "is1"));
    }

    private static void agentBeginsAnew() {
        Kit.House h = withAnna();
        Kit.due("a TICKET", h.fetch(0, 1, 0, "krbtgt/HOUSE", 0, 4, 36000), 0);
        h.x.shift(0, 200);
        h.request(0, 0, 0, "http/www", 0, 4, 36000);
        h.x.present(0, 0, 1);
        Kit.due("anew", h.agent(0, "anna:secret", 2), true);
        Kit.due("no TICKET", h.x.ticket(0, 0, 5), -1);
        Kit.due("no request", h.x.take(0), -3);
        Kit.due("no AP-REQ", h.x.met(0), -3);
        h.request(0, 1, 0, "http/www", 0, 4, 36000);
        Kit.Node shown = new Kit.Node(Kit.opened(Kit.ANNA_18, 1,
            new Kit.Node(h.node().down(3).parts.get(0).down(2).inner)));
        Kit.same("no SHIFT", shown.down(0).whole, Kit.time(Kit.NOW));
        Kit.same("nothing made before", shown.down(1).whole, Kit.num(0));
        Kit.due("a failed one changes nothing", h.agent(0, "anna", 2), false);
        Kit.due("so the reply is taken", h.carry().x.kdc(), 0);
        Kit.due("so the reply is taken", h.carry().x.take(0), 0);
    }

    private static void shift() {
        Kit.House h = withAnna();
        int[] bad = {100001, -100001, Integer.MAX_VALUE, Integer.MIN_VALUE};
        for (int seconds : bad) {
            Kit.due("shift " + seconds, h.x.shift(0, seconds), false);
        }
        Kit.due("shift of none", h.x.shift(1, 0), false);
        Kit.due("shift of -1", h.x.shift(-1, 0), false);
        Kit.due("shift of 4", h.x.shift(4, 0), false);
        int[][] cases = {{Kit.NOW, 100000}, {Kit.NOW, -100000}, {0, -5}, {100, -100}, {99999, -100000},
            {2000000000, 100000}, {Kit.NOW, 0}};
        for (int[] c : cases) {
            h.x.clock(c[0]);
            Kit.due("shift " + c[1], h.x.shift(0, c[1]), true);
            h.request(0, 1, 0, "http/www", 0, 4, 0);
            Kit.Node shown = new Kit.Node(Kit.opened(Kit.ANNA_18, 1,
                new Kit.Node(h.node().down(3).parts.get(0).down(2).inner)));
            Kit.same("its clock", shown.down(0).whole, Kit.time(Math.max(0, c[0] + c[1])));
        }
    }

    private static void requestRefused() {
        Kit.House h = withAnna();
        h.request(0, 0, 0, "http/www", 0, 4, 1);
        byte[] before = h.out();
        int[][] bad = {{1, 0, 0, 0, 4, 1, 1}, {-1, 0, 0, 0, 4, 1, 1}, {4, 0, 0, 0, 4, 1, 1}, {0, -1, 0, 0, 4, 1, 1},
            {0, 3, 0, 0, 4, 1, 1}, {0, 2, 0, 0, 4, 1, 1}, {0, 2, -1, 0, 4, 1, 1}, {0, 2, 8, 0, 4, 1, 1},
            {0, 0, 0, 0, 0, 1, 1}, {0, 0, 0, 0, 5, 1, 1}, {0, 0, 0, 0, 4, -1, 1}, {0, 0, 0, 0, 4, 100000001, 1},
            {0, 0, 0, 0, 4, 1, -1}, {0, 0, 0, 0, 4, 1, 100000001}};
        for (int[] b : bad) {
            int got = h.tape("http/www").x.request(b[0], b[1], b[2], b[3], b[4], b[5], b[6]);
            Kit.due("request " + java.util.Arrays.toString(b), got, -1);
            Kit.due("the TAPE is empty behind it", h.x.end(1), false);
        }
        String[] names = {"", "krbtgt/HOUSe", "krbtgt/HOUSE/", "HOUSE", "anna:", "a/b/c", "abcdefghijklmnopq", "9a", "a/"};
        for (String name : names) {
            Kit.due("request for '" + name + "'", h.request(0, 0, 0, name, 0, 4, 1), -1);
        }
        Kit.same("the OUT stays", h.out(), before);
        Kit.due("w is of no matter to AS", h.request(0, 0, 99, "a/9", 0, 4, 100000000) > 0, true);
        Kit.due("renew, most", h.tape("anna").x.request(0, 1, -9, -1, 1, 100000000, 100000000) > 0, true);
    }

    private static byte[] body(int options, String[] client, String[] service, long till, long rtime, long nonce, int... types) {
        return Kit.seq(Kit.f(0, Kit.flags(options)), Kit.f(1, client == null ? null : Kit.name(1, client)),
            Kit.f(2, Kit.text("HOUSE")), Kit.f(3, Kit.name(2, service)), Kit.f(5, Kit.time(till)),
            Kit.f(6, Kit.timeOrNone(rtime)), Kit.f(7, Kit.num(nonce)), Kit.f(8, Forms.etypes(types)));
    }

    private static final int[][] TYPES = {{}, {17}, {18}, {17, 18}, {18, 17}};

    private static void asReq() {
        Kit.House h = withAnna();
        h.agent(3, "abcdefghijklmnop/0123456789012345:x", 1);
        Kit.Coins coins = new Kit.Coins(Kit.ascii("coins"));
        for (int types = 1; types <= 4; types++) {
            int size = h.tape("krbtgt/HOUSE").x.request(0, 0, 0, 0x40800010, types, 0, 0);
            byte[] want = Kit.app(10, Kit.seq(Kit.f(1, Kit.num(5)), Kit.f(2, Kit.num(10)), Kit.f(4, body(0x40800010,
                new String[] {"anna"}, new String[] {"krbtgt", "HOUSE"}, 0, Kit.NONE, coins.number(0x7FFFFFFF), TYPES[types]))));
            Kit.same("AS-REQ", h.out(), want);
            Kit.due("its size", size, want.length);
            Kit.due("the TAPE is empty behind it", h.x.end(1), false);
        }
        h.x.shift(3, -7);
        h.tape("x/y").x.request(3, 0, 0, -1, 2, 100000000, 5);
        Kit.same("AS-REQ", h.out(), Kit.app(10, Kit.seq(Kit.f(1, Kit.num(5)), Kit.f(2, Kit.num(10)), Kit.f(4, body(-1,
            new String[] {"abcdefghijklmnop", "0123456789012345"}, new String[] {"x", "y"}, Kit.NOW - 7 + 100000000,
            Kit.NOW - 2, coins.number(0x7FFFFFFF), 18)))));
    }

    private static void asReqShown() {
        Kit.House h = withAnna();
        Kit.Coins coins = new Kit.Coins(Kit.ascii("coins"));
        for (int types = 1; types <= 4; types++) {
            h.tape("krbtgt/HOUSE").x.request(0, 1, 0, 0, types, 10, 20);
            byte[] inner = body(0, new String[] {"anna"}, new String[] {"krbtgt", "HOUSE"}, Kit.NOW + 10, Kit.NOW + 20,
                coins.number(0x7FFFFFFF), TYPES[types]);
            byte[] text = Kit.seq(Kit.f(0, Kit.time(Kit.NOW)), Kit.f(1, Kit.num(types - 1)));
            byte[] key = TYPES[types][0] == 17 ? Kit.ANNA_17 : Kit.ANNA_18;
            byte[] shown = Kit.encrypted(TYPES[types][0], Kit.NONE, Kit.seal(key, 1, coins.next(16), text));
            Kit.same("AS-REQ, shown ahead", h.out(), Forms.kdcReq(10, inner, Kit.pa(2, shown)));
        }
    }

    private static void tgsReq() {
        Kit.House h = withAnna();
        h.fetch(0, 1, 0, "krbtgt/HOUSE", 0, 4, 36000);
        h.request(0, 0, 0, "anna", 0, 1, 5);
        h.tape("again").x.seed();
        Kit.Coins coins = new Kit.Coins(Kit.ascii("again"));
        // The ticket's key, from the coins of its reply: those of nonce and confounder come before.
        Kit.Coins first = new Kit.Coins(Kit.ascii("coins"));
        first.next(20);
        byte[] session = first.next(32);
        byte[] ticket = ticketOf(first, session, 0x00600000);
        h.x.shift(0, 3);
        h.tape("http/www").x.request(0, 2, 0, 0x40000000, 3, 50, 60);
        byte[] inner = body(0x40000000, null, new String[] {"http", "www"}, Kit.NOW + 53, Kit.NOW + 63,
            coins.number(0x7FFFFFFF), 17, 18);
        byte[] subkey = coins.next(32);
        byte[] proof = Kit.app(2, Kit.seq(Kit.f(0, Kit.num(5)), Kit.f(1, Kit.text("HOUSE")), Kit.f(2, Kit.ANNA_NAME),
            Kit.f(3, Kit.checksum(session, 6, inner)), Kit.f(4, Kit.num(1)), Kit.f(5, Kit.time(Kit.NOW + 3)),
            Kit.f(6, Kit.key(subkey))));
        byte[] ap = Forms.apReq(ticket, Kit.encrypted(18, Kit.NONE, Kit.seal(session, 7, coins.next(16), proof)));
        Kit.same("TGS-REQ", h.out(), Forms.kdcReq(12, inner, Kit.pa(1, ap)));
        h.x.drop(0, 0);
        Kit.due("the reply is taken though the TICKET went", h.carry().x.kdc(), 0);
        Kit.due("the reply is taken though the TICKET went", h.carry().x.take(0), 0);
        Kit.due("its key's type", h.x.ticket(0, 0, 5), 17);
    }

    /** The TGT that the centre made of its coins. */
    private static byte[] ticketOf(Kit.Coins coins, byte[] session, int flags) {
        Forms.Pass pass = new Forms.Pass();
        pass.flags = Kit.flags(flags);
        pass.session = session;
        pass.renewTill = null;
        return pass.der(Kit.encrypted(18, 1, Kit.seal(Kit.TGS_18, 2, coins.next(16), pass.text())));
    }

    private static void nonces() {
        Kit.House h = withAnna();
        Kit.due("a TICKET", h.fetch(0, 1, 0, "krbtgt/HOUSE", 0, 4, 36000), 0);
        // USEC counts what is shown ahead and what has an authenticator, and nothing else.
        int made = 1;
        for (int k = 0; k < 5; k++) {
            h.request(0, 0, 0, "anna", 0, 4, 0);
            h.x.present(0, 0, 0);
            h.carry().x.serve(0);
            made++;
            h.request(0, 1, 0, "anna", 0, 4, 0);
            Kit.Node shown = new Kit.Node(Kit.opened(Kit.ANNA_18, 1,
                new Kit.Node(h.node().down(3).parts.get(0).down(2).inner)));
            Kit.same("USEC", shown.down(1).whole, Kit.num(made));
            made++;
            h.request(0, 2, 0, "anna", 0, 4, 0);
            made++;
        }
    }

    /** A reply to the latest request, made by the test: its nonce as that was. */
    private static Forms.Reply reply(Kit.House h) {
        Forms.Reply reply = new Forms.Reply();
        reply.nonce = h.node().down(4, 7).whole;
        return reply;
    }

    private static Kit.House asking(int types) {
        Kit.House h = withAnna();
        h.request(0, 1, 0, "krbtgt/HOUSE", 0, types, 36000);
        return h;
    }

    private interface Change {
        void to(Forms.Reply reply);
    }

    private static void dueTaken(String what, int types, int want, Change change) {
        Kit.House h = asking(types);
        Forms.Reply reply = reply(h);
        change.to(reply);
        Kit.due(what, h.tape(reply.der()).x.take(0), want);
        Kit.due("the TAPE is empty behind it", h.x.end(1), false);
    }

    private static void takeInOrder() {
        dueTaken("as it should be", 4, 0, r -> { });
        dueTaken("by 17", 4, 0, r -> r.sealing = Kit.ANNA_17);
        dueTaken("number 26", 4, 0, r -> r.part = 26);
        dueTaken("number 27", 4, -60, r -> r.part = 27);
        dueTaken("padata and a caddr", 4, 0, r -> {
            r.padata = Kit.seq(Kit.pa(3, Kit.NIL));
            r.caddr = Kit.seq();
            r.expiration = Kit.time(5);
        });
        dueTaken("a TGS-REP", 4, -40, r -> r.type = 13);
        dueTaken("17 was not asked for", 2, -14, r -> r.sealing = Kit.ANNA_17);
        dueTaken("18 was not asked for", 1, -14, r -> r.sealing = Kit.ANNA_18);
        dueTaken("another usage", 4, -31, r -> r.usage = 8);
        dueTaken("another key", 4, -31, r -> r.sealing = Kit.WWW_18);
        dueTaken("no part", 4, -60, r -> r.flags = null);
        dueTaken("nonce", 4, -41, r -> r.nonce = Kit.num(1));
        dueTaken("crealm", 4, -41, r -> r.crealm = Kit.text("OTHER"));
        dueTaken("cname", 4, -41, r -> r.cname = Kit.name(1, "otto"));
        dueTaken("cname's type is of no matter", 4, 0, r -> r.cname = Kit.name(-3, "anna"));
        dueTaken("srealm", 4, -41, r -> r.srealm = Kit.text("OTHER"));
        dueTaken("sname", 4, -41, r -> r.sname = Kit.WWW_NAME);
        dueTaken("sname's type is of no matter", 4, 0, r -> r.sname = Kit.name(7, "krbtgt", "HOUSE"));
        dueTaken("the ticket's realm", 4, -41, r -> {
            Forms.Pass pass = new Forms.Pass();
            pass.realm = Kit.text("OTHER");
            r.ticket = pass.der();
        });
        dueTaken("the ticket's sname", 4, -41, r -> r.ticket = Forms.wwwPass().der());
        dueTaken("both snames", 4, -41, r -> {
            r.ticket = Forms.wwwPass().der();
            r.sname = Kit.WWW_NAME;
        });
        dueTaken("key's type", 4, -14, r -> r.key = Kit.pair(23, new byte[16]));
        dueTaken("key's length", 4, -14, r -> r.key = Kit.pair(18, new byte[16]));
        dueTaken("starttime, 300 ahead", 4, 0, r -> r.starttime = Kit.time(Kit.NOW + 300));
        dueTaken("starttime, 301 ahead", 4, -37, r -> r.starttime = Kit.time(Kit.NOW + 301));
        dueTaken("starttime, 300 behind", 4, 0, r -> r.starttime = Kit.time(Kit.NOW - 300));
        dueTaken("starttime, 301 behind", 4, -37, r -> r.starttime = Kit.time(Kit.NOW - 301));
        dueTaken("authtime is not looked at then", 4, 0, r -> r.authtime = Kit.time(5));
        dueTaken("authtime, without starttime", 4, -37, r -> {
            r.authtime = Kit.time(Kit.NOW - 301);
            r.starttime = null;
        });
        dueTaken("key before starttime", 4, -14, r -> {
            r.key = Kit.pair(18, Kit.NIL);
            r.starttime = Kit.time(5);
        });
        dueTaken("nonce before key", 4, -41, r -> {
            r.key = Kit.pair(18, Kit.NIL);
            r.nonce = Kit.num(5);
        });
        dueTaken("pvno is not told", 4, 0, r -> r.pvno = Kit.num(6));
        Kit.House h = asking(4);
        byte[] reply = reply(h).der();
        Kit.due("something behind", h.tape(Kit.cat(reply, Kit.bytes(0))).x.take(0), -60);
        h = asking(4);
        Kit.due("nothing", h.x.take(0), -60);
        h = asking(4);
        reply[0] = 105;
        Kit.due("another first byte", h.tape(reply).x.take(0), -60);
        h = asking(4);
        h.x.shift(0, 301);
        Kit.due("its own clock counts", h.tape(reply(h).der()).x.take(0), -37);
    }

    /** Only TGS renews: a request of AS may hold the option, its ticket is no renewed one for that. */
    private static void takeAsThatAskedForRenew() {
        for (int kind = 0; kind < 2; kind++) {
            for (int off : new int[] {-301, -300, 0, 300, 301}) {
                Kit.House h = withAnna();
                h.request(0, kind, 0, "krbtgt/HOUSE", 2, 4, 36000);
                Forms.Reply reply = reply(h);
                reply.starttime = Kit.time(Kit.NOW + off);
                int want = Math.abs(off) > 300 ? -37 : 0;
                Kit.due("AS with renew", h.tape(reply.der()).x.take(0), want);
            }
        }
    }

    /** The whole way, the AGENT's clock going wrong between its request and the reply. */
    private static void takeRenewed() {
        int renewable = 1 << 23;
        Kit.House h = withAnna();
        Kit.due("renewable", h.fetch(0, 1, 0, "krbtgt/HOUSE", renewable, 4, 36000), 0);
        h.request(0, 2, 0, "krbtgt/HOUSE", 2, 4, 36000);
        Kit.due("renewed", h.carry().x.kdc(), 0);
        h.x.shift(0, 500);
        Kit.due("a renewed one may be far off", h.carry().x.take(0), 1);
        Kit.due("its starttime", h.x.ticket(0, 1, 2), Kit.NOW);
        h.request(0, 0, 0, "krbtgt/HOUSE", 0, 4, 36000);
        Kit.due("AS behind it is none", h.tape(reply(h).der()).x.take(0), -37);
        h.x.shift(0, 0);
        h.request(0, 0, 0, "krbtgt/HOUSE", 2, 4, 36000);
        h.request(0, 2, 0, "krbtgt/HOUSE", 0, 4, 36000);
        Kit.due("TGS without renew", h.carry().x.kdc(), 0);
        h.x.shift(0, -301);
        Kit.due("TGS without renew is none", h.carry().x.take(0), -37);
    }

    /** TGS: the subkey opens, and the name is that of the TICKET. */
    private static Kit.House askingTgs(int options, Forms.Reply reply) {
        Kit.House h = withAnna();
        h.fetch(0, 1, 0, "krbtgt/HOUSE", 0, 3, 36000);
        h.tape("again").x.seed();
        h.request(0, 2, 0, "krbtgt/HOUSE", options, 4, 36000);
        reply.type = 13;
        reply.part = 26;
        reply.usage = 9;
        reply.nonce = h.node().down(4, 7).whole;
        Kit.Coins coins = new Kit.Coins(Kit.ascii("again"));
        coins.next(4);
        reply.sealing = coins.next(16);
        return h;
    }

    private static void dueTgs(String what, int options, int want, Change change) {
        Forms.Reply reply = new Forms.Reply();
        Kit.House h = askingTgs(options, reply);
        change.to(reply);
        Kit.due(what, h.tape(reply.der()).x.take(0), want);
    }

    private static void takeTgs() {
        dueTgs("as it should be", 0, 1, r -> { });
        dueTgs("an AS-REP", 0, -40, r -> r.type = 11);
        dueTgs("the ticket's key's usage", 0, -31, r -> r.usage = 8);
        dueTgs("another type", 0, -14, r -> r.sealing = Kit.KEY_A);
        dueTgs("another key", 0, -31, r -> r.sealing = Kit.KEY_B);
        dueTgs("number 25", 0, -60, r -> r.part = 25);
        dueTgs("cname", 0, -41, r -> r.cname = Kit.WWW_NAME);
        dueTgs("starttime", 0, -37, r -> r.starttime = Kit.time(Kit.NOW - 301));
        dueTgs("starttime of a renewed one", 2, 1, r -> r.starttime = Kit.time(Kit.NOW - 301));
        dueTgs("no starttime of a renewed one", 2, 1, r -> {
            r.starttime = null;
            r.authtime = Kit.time(0);
        });
    }

    private static void dueError(String what, byte[] error, int want) {
        Kit.House h = asking(4);
        Kit.due(what, h.tape(error).x.take(0), want);
    }

    private static void takeErrors() {
        int[] codes = {1, 25, 999, 1000};
        for (int code : codes) {
            dueError("error " + code, Kit.error(5, code, null, null, Kit.WWW_NAME, null), -code);
        }
        int[] none = {0, -1, 1001, Integer.MAX_VALUE, Integer.MIN_VALUE};
        for (int code : none) {
            dueError("error " + code, Kit.error(5, code, null, null, Kit.WWW_NAME, null), -60);
        }
        byte[] whole = Kit.app(30, Kit.seq(Kit.f(0, Kit.num(0)), Kit.f(1, Kit.num(0)), Kit.f(2, Kit.time(1)),
            Kit.f(3, Kit.num(999999)), Kit.f(4, Kit.time(2)), Kit.f(5, Kit.num(0)), Kit.f(6, Kit.num(77)),
            Kit.f(7, Kit.text("x")), Kit.f(8, Kit.name(1)), Kit.f(9, Kit.text("")), Kit.f(10, Kit.name(1)),
            Kit.f(11, Kit.text("why")), Kit.f(12, Kit.oct(Kit.NIL))));
        dueError("all fields", whole, -77);
        byte[] bad = Kit.app(30, Kit.seq(Kit.f(0, Kit.num(5)), Kit.f(1, Kit.num(30)), Kit.f(4, Kit.time(2)),
            Kit.f(5, Kit.num(1000000)), Kit.f(6, Kit.num(77)), Kit.f(9, Kit.text("")), Kit.f(10, Kit.name(1))));
        dueError("BROKEN", bad, -60);
    }

    private static void takeOnce() {
        Kit.House h = withAnna();
        Kit.due("without a request", h.x.take(0), -3);
        h.request(0, 1, 0, "krbtgt/HOUSE", 0, 4, 36000);
        h.carry().x.kdc();
        Kit.due("once", h.carry().x.take(0), 0);
        Kit.due("twice", h.carry().x.take(0), -3);
        h.request(0, 1, 0, "krbtgt/HOUSE", 0, 4, 36000);
        byte[] early = h.out();
        h.request(0, 1, 0, "krbtgt/HOUSE", 0, 4, 36000);
        h.kdc(early);
        Kit.due("a reply to an earlier one", h.carry().x.take(0), -41);
        Kit.due("no such AGENT", h.tape("x").x.take(1), -1);
        Kit.due("the TAPE is empty behind it", h.x.end(1), false);
    }

    private static void takeMore() {
        Kit.House h = withAnna();
        for (int w = 0; w < 8; w++) {
            Kit.due("TICKET " + w, h.fetch(0, 1, 0, "krbtgt/HOUSE", 0, 4, 36000), w);
        }
        Kit.due("no TICKET is free", h.fetch(0, 1, 0, "krbtgt/HOUSE", 0, 4, 36000), -2);
        Kit.due("drop", h.x.drop(0, 5), true);
        Kit.due("drop", h.x.drop(0, 3), true);
        Kit.due("the lowest that is free", h.fetch(0, 1, 0, "krbtgt/HOUSE", 0, 4, 36000), 3);
        Kit.due("the next", h.fetch(0, 1, 0, "krbtgt/HOUSE", 0, 4, 36000), 5);
    }

    /** A ticket is kept as it came and told, whatever the centre would have written. */
    private static void wallet() {
        Kit.House h = asking(4);
        Forms.Reply reply = reply(h);
        Forms.Pass pass = new Forms.Pass();
        pass.version = Kit.num(99);
        pass.sname = Kit.name(17, "krbtgt", "HOUSE");
        reply.ticket = pass.der(Kit.encrypted(99, 4294967295L, new byte[3000]));
        reply.cname = Kit.name(33, "anna");
        reply.key = Kit.key(Kit.KEY_B);
        Kit.due("taken", h.tape(reply.der()).x.take(0), 0);
        h.tape("again").x.seed();
        int size = h.x.present(0, 0, 0);
        Kit.same("as it came", h.node().down(3).whole, reply.ticket);
        Kit.Node proof = new Kit.Node(Kit.opened(Kit.KEY_B, 11, h.node().down(4)));
        Kit.same("cname as told", proof.down(2).whole, reply.cname);
        Kit.due("its size", size, h.x.out(-1));
        int[] types = {0, 127, 128, 255, 256, 32767, 32768, -1, -127, -128, -129, -256, -32768, -32769, Integer.MIN_VALUE,
            Integer.MAX_VALUE};
        for (int type : types) {
            Kit.House other = asking(4);
            Forms.Reply one = reply(other);
            one.cname = Kit.name(type, "anna");
            other.tape(one.der()).x.take(0);
            other.x.present(0, 0, 0);
            proof = new Kit.Node(Kit.opened(Kit.KEY_A, 11, other.node().down(4)));
            Kit.same("name-type " + type, proof.down(2).whole, one.cname);
        }
        // A shorter one in its place leaves nothing of the longer one.
        h.x.drop(0, 0);
        Kit.due("a shorter one", h.fetch(0, 1, 0, "krbtgt/HOUSE", 0, 4, 36000), 0);
        h.request(0, 2, 0, "http/www", 0, 4, 36000);
        Kit.due("is whole", h.carry().x.kdc(), 0);
    }

    private static void ticketAndDrop() {
        Kit.House h = asking(4);
        Forms.Reply reply = reply(h);
        reply.flags = Kit.tlv(3, Kit.bytes(0, 0x81, 2, 3, 4, 5, 6));
        reply.authtime = Kit.time(Kit.NOW - 5);
        reply.starttime = Kit.time(Kit.NOW - 4);
        reply.endtime = Kit.time(2145916799);
        reply.renewTill = Kit.time(0);
        Kit.due("taken", h.tape(reply.der()).x.take(0), 0);
        long[] want = {0x81020304, Kit.NOW - 5, Kit.NOW - 4, 2145916799, 0, 18, -1};
        for (int what = 0; what < want.length; what++) {
            Kit.due("ticket " + what, h.x.ticket(0, 0, what), want[what]);
        }
        Kit.due("ticket -1", h.x.ticket(0, 0, -1), -1);
        int[][] none = {{0, 1}, {0, -1}, {0, 8}, {1, 0}, {-1, 0}, {4, 0}, {0, Integer.MAX_VALUE}};
        for (int[] n : none) {
            Kit.due("ticket of none", h.x.ticket(n[0], n[1], 3), -1);
            Kit.due("drop of none", h.x.drop(n[0], n[1]), false);
        }
        Kit.due("drop", h.x.drop(0, 0), true);
        Kit.due("drop again", h.x.drop(0, 0), false);
        Kit.due("ticket behind it", h.x.ticket(0, 0, 3), -1);
        h.request(0, 1, 0, "krbtgt/HOUSE", 0, 4, 36000);
        reply = reply(h);
        reply.starttime = null;
        reply.key = Kit.key(Kit.KEY_B);
        Kit.due("taken", h.tape(reply.der()).x.take(0), 0);
        Kit.due("no starttime", h.x.ticket(0, 0, 2), -1);
        Kit.due("no renew-till", h.x.ticket(0, 0, 4), -1);
        Kit.due("key's type", h.x.ticket(0, 0, 5), 17);
    }

    private static void present() {
        for (int how = 0; how < 4; how++) {
            Kit.House h = asking(4);
            Forms.Reply reply = reply(h);
            reply.key = Kit.key(how < 2 ? Kit.KEY_A : Kit.KEY_B);
            h.tape(reply.der()).x.take(0);
            h.x.shift(0, -9);
            h.tape("again").x.seed();
            h.tape("stays");
            int size = h.x.present(0, 0, how);
            Kit.Coins coins = new Kit.Coins(Kit.ascii("again"));
            byte[] subkey = how >= 2 ? Kit.key(coins.next(16)) : null;
            Forms.Proof proof = new Forms.Proof();
            proof.cusec = Kit.num(1);
            proof.ctime = Kit.time(Kit.NOW - 9);
            proof.subkey = subkey;
            proof.number = Kit.num(coins.number(0x3FFFFFFF));
            byte[] key = how < 2 ? Kit.KEY_A : Kit.KEY_B;
            byte[] want = Forms.apReq(Kit.num(5), Kit.num(14), Kit.flags((how & 1) != 0 ? 0x20000000 : 0), reply.ticket,
                Kit.encrypted(Kit.typeOf(key), Kit.NONE, Kit.seal(key, 11, coins.next(16), proof.text())));
            Kit.same("AP-REQ " + how, h.out(), want);
            Kit.due("its size", size, want.length);
            Kit.due("the TAPE is not taken", h.x.end(5), true);
        }
        Kit.House h = asking(4);
        h.tape(reply(h).der()).x.take(0);
        int[][] bad = {{0, 0, 4}, {0, 0, -1}, {0, 1, 0}, {0, -1, 0}, {0, 8, 0}, {1, 0, 0}, {-1, 0, 0}, {4, 0, 0}};
        byte[] before = h.out();
        for (int[] b : bad) {
            Kit.due("present", h.x.present(b[0], b[1], b[2]), -1);
        }
        Kit.same("the OUT stays", h.out(), before);
    }
}
