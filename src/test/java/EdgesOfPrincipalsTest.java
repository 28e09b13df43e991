/** Part II at its edges: NAMES, passwords, the twelve places, VERSIONS, each POLICY; each method has its sentence before it. */
public final class EdgesOfPrincipalsTest {
    public static void main(String[] args) {
        signsOfNames();
        sizesOfNames();
        nameOfTheCentre();
        sizesOfPasswords();
        signsOfPasswords();
        countsOfRounds();
        placesTaken();
        refusedPrincipal();
        refusedChange();
        manyVersions();
        latestSeals();
        lifeAtItsEnds();
        renewAtItsEnds();
        endsAtTheirEnds();
        flagsAtFirst();
        refusedPolicy();
        refusedRoom();
        Kit.finish();
    }

    private static boolean isName(String name) {
        Kit.House h = new Kit.House();
        boolean first = h.principal(name + ":x", 1) == 1;
        Kit.due("an AGENT's is a principal's: " + name, h.agent(0, name + ":x", 1), first);
        h.agent(0, "anna:x", 1);
        Kit.due("request's, too: " + name, h.request(0, 0, 0, name, 0, 4, 0) > 0, first);
        return first;
    }

    /** "Letters a .. z and digits .., its first sign a letter." */
    private static void signsOfNames() {
        for (int sign = 0; sign < 256; sign++) {
            boolean letter = sign >= 'a' && sign <= 'z';
            boolean digit = sign >= '0' && sign <= '9';
            // A ':' ends the NAME for principal() and agent(), and is no sign of one for request().
            if (sign != ':') {
                String one = "" + (char) sign;
                Kit.due("first sign " + sign, isName(one), letter);
                Kit.due("first sign of two " + sign, isName(one + "a"), letter);
                Kit.due("second sign " + sign, isName("a" + one + "b"), letter || digit || sign == '/');
                Kit.due("last sign " + sign, isName("a" + one), letter || digit);
                Kit.due("first sign of the second part " + sign, isName("a/" + one), letter || digit);
                Kit.due("second sign of the second part " + sign, isName("a/b" + one), letter || digit);
            }
        }
        Kit.House h = new Kit.House();
        h.agent(0, "anna:x", 1);
        Kit.due("request for 'a:b'", h.request(0, 0, 0, "a:b", 0, 4, 0), -1);
        Kit.due("request for 'a:'", h.request(0, 0, 0, "a:", 0, 4, 0), -1);
        Kit.due("principal '::'", h.principal("::", 1), -1);
        Kit.due("principal 'a::'", h.principal("a::", 1), 1);
    }

    /** "One or two parts of 1 to 16." */
    private static void sizesOfNames() {
        for (int size = 0; size < 20; size++) {
            String part = "x".repeat(size);
            boolean good = size >= 1 && size <= 16;
            Kit.due("one part of " + size, isName(part), good);
            Kit.due("first part of " + size, isName(part + "/a"), good);
            Kit.due("second part of " + size, isName("a/" + part), good);
            Kit.due("both of " + size, isName(part + "/" + part), good);
        }
        Kit.due("three parts", isName("a/b/c"), false);
        Kit.due("three parts, the last empty", isName("a/b/"), false);
        Kit.due("two '/'", isName("a//b"), false);
        Kit.due("2000 signs", isName("a".repeat(2000)), false);
    }

    /** "'krbtgt/HOUSE' is one for request() alone", "HOUSE the only word in capitals". */
    private static void nameOfTheCentre() {
        Kit.House h = new Kit.House();
        Kit.due("principal", h.principal("krbtgt/HOUSE:x", 1), -1);
        Kit.due("agent", h.agent(0, "krbtgt/HOUSE:", 1), false);
        h.agent(0, "anna:x", 1);
        Kit.due("request", h.request(0, 0, 0, "krbtgt/HOUSE", 0, 4, 0) > 0, true);
        Kit.same("its sname", h.node().down(4, 3).whole, Kit.TGS_NAME);
        String[] others = {"krbtgt/HOUS", "krbtgt/HOUSES", "krbtgt/house/", "krbtgt/House", "Krbtgt/HOUSE", "xrbtgt/HOUSE", "HOUSE",
            "krbtgt/HOUSE ", " krbtgt/HOUSE", "krbtgt/HOUSE/a", "house/HOUSE", "krbtgtHOUSE", "krbtgt/"};
        for (String other : others) {
            Kit.due("request for " + other, h.request(0, 0, 0, other, 0, 4, 0), -1);
        }
        Kit.due("krbtgt/house is another one", h.request(0, 0, 0, "krbtgt/house", 0, 4, 0) > 0, true);
    }

    /** "A password of 0 to 20 bytes". */
    private static void sizesOfPasswords() {
        for (int size = 0; size < 24; size++) {
            Kit.House h = new Kit.House();
            String password = "y".repeat(size);
            boolean good = size <= 20;
            Kit.due("principal's of " + size, h.principal("anna:" + password, 1), good ? 1 : -1);
            h.principal("otto:x", 1);
            Kit.due("change's of " + size, h.tape(password).x.change(good ? 2 : 1, 1), good ? 2 : -1);
            Kit.due("agent's of " + size, h.agent(0, "anna:" + password, 1), good);
        }
        Kit.House h = Kit.house();
        Kit.due("change of a full TAPE", h.tape(new byte[4000]).x.change(1, 1), -1);
    }

    /** "Bytes 32 .. 126". */
    private static void signsOfPasswords() {
        for (int sign = 0; sign < 256; sign++) {
            Kit.House h = new Kit.House();
            boolean good = sign >= 32 && sign <= 126;
            String text = "p" + (char) sign;
            Kit.due("principal's sign " + sign, h.principal("anna:" + text, 1), good ? 1 : -1);
            Kit.due("agent's sign " + sign, h.agent(0, "anna:" + text, 1), good);
            Kit.due("change's sign " + sign, h.tape(text).x.change(0, 1), good ? 2 : -1);
        }
    }

    /** "COUNT rounds, 1 .. 200". */
    private static void countsOfRounds() {
        int[] counts = {Integer.MIN_VALUE, -1, 0, 1, 2, 199, 200, 201, 4096, Integer.MAX_VALUE};
        for (int count : counts) {
            Kit.House h = new Kit.House();
            boolean good = count >= 1 && count <= 200;
            Kit.due("principal's " + count, h.principal("anna:x", count), good ? 1 : -1);
            Kit.due("change's " + count, h.tape("x").x.change(0, count), good ? 2 : -1);
            Kit.due("agent's " + count, h.agent(3, "anna:x", count), good);
            if (good) {
                Forms.Body body = Forms.asBody();
                byte[] key = Kit.stringToKey(18, "x", "HOUSEanna", count);
                Kit.due("the key of " + count, h.kdc(Forms.asReq(body, Forms.shown(key, Kit.NOW))), 0);
                h.request(3, 1, 0, "krbtgt/HOUSE", 0, 2, 36000);
                Kit.due("the AGENT's of " + count, h.carry().x.kdc(), 0);
                Kit.due("the AGENT's of " + count, h.carry().x.take(3), 0);
            }
        }
    }

    /** "At most 12; 'krbtgt/HOUSE' is number 0 from the beginning." */
    private static void placesTaken() {
        Kit.House h = new Kit.House();
        for (int p = 1; p < 12; p++) {
            Kit.due("there is no " + p + " yet", h.x.policy(p, 0, 5), false);
            Kit.due("nor a service", h.x.serve(p), -1);
            Kit.due("principal " + p, h.principal("p" + p + "/x:x", 1), p);
            Kit.due("it is there now", h.x.policy(p, 0, 5), true);
            Kit.due("a service, too", h.x.serve(p), -60);
        }
        Kit.due("there is no place", h.principal("more:x", 1), -1);
        Kit.due("nor for one that is there", h.principal("p1/x:x", 1), -1);
        Kit.due("number 12", h.x.policy(12, 0, 5), false);
        Kit.due("number 12", h.tape("x").x.change(12, 1), -1);
        Kit.due("number 12", h.x.serve(12), -1);
        Kit.due("number 11", h.tape("x").x.change(11, 1), 2);
        Kit.due("an AGENT needs no place", h.agent(0, "more:x", 1), true);
        h.request(0, 0, 0, "p1/x", 0, 4, 0);
        Kit.due("nor has one", h.carry().x.kdc(), 6);
    }

    /** A refused principal() takes no place and changes none. */
    private static void refusedPrincipal() {
        Kit.House h = new Kit.House();
        Kit.due("anna", h.principal("anna:secret", 2), 1);
        h.x.policy(1, 0, 77);
        Kit.due("anna is there", h.principal("anna:other", 3), -1);
        Kit.due("no COUNT", h.principal("otto:x", 0), -1);
        Kit.due("no password", h.principal("otto", 1), -1);
        Kit.due("no NAME", h.principal("Otto:x", 1), -1);
        Kit.due("her key is the first one", h.kdc(Forms.asReq(Forms.asBody(), Forms.shownAnna())), 0);
        Kit.Node part = new Kit.Node(Kit.opened(Kit.ANNA_18, 3, h.node().down(6)));
        Kit.same("her LIFE, too", part.down(7).whole, Kit.time(Kit.NOW + 77));
        Kit.due("the next place", h.principal("otto:x", 1), 2);
    }

    /** A refused change() leaves the VERSIONS as they were. */
    private static void refusedChange() {
        Kit.House h = Kit.house();
        Kit.due("COUNT", h.tape("new").x.change(1, 201), -1);
        Kit.due("COUNT", h.tape("new").x.change(1, 0), -1);
        Kit.due("21 bytes", h.tape("y".repeat(21)).x.change(1, 1), -1);
        Kit.due("a sign", h.tape("\u007f").x.change(1, 1), -1);
        Kit.due("none", h.tape("new").x.change(3, 1), -1);
        Kit.due("none", h.tape("new").x.change(-1, 1), -1);
        Kit.due("her key is the first one", h.kdc(Forms.asReq(Forms.asBody(), Forms.shownAnna())), 0);
        Kit.due("its VERSION", h.node().down(6, 1).number(), 1);
        Kit.due("the next VERSION", h.tape("new").x.change(1, 1), 2);
        Kit.due("http/www has its own", h.tape("new").x.change(2, 1), 2);
    }

    /** "Its VERSIONS of keys (kvno) are 1, 2, ..": numbers of more than one byte, and which can open. */
    private static void manyVersions() {
        Kit.House h = Kit.house();
        for (int version = 2; version <= 300; version++) {
            Kit.due("VERSION " + version, h.x.change(2, 1 + version % 2), version);
        }
        byte[] even = Kit.stringToKey(18, "", "HOUSEhttpwww", 1);
        byte[] odd = Kit.stringToKey(17, "", "HOUSEhttpwww", 2);
        long[] versions = {300, 299, 298, 301, 44, 43, 0, 4294967295L};
        int[] codes = {0, 1, -44, -44, -44, -44, -44, -44};
        for (int k = 0; k < versions.length; k++) {
            Forms.Pass pass = Forms.wwwPass();
            pass.kvno = versions[k];
            pass.sealing = versions[k] % 2 == 0 ? even : odd;
            Forms.Proof proof = new Forms.Proof();
            proof.cusec = Kit.num(k);
            Kit.due("kvno " + versions[k], h.tape(Forms.visit(pass, proof, false)).x.serve(2), codes[k]);
        }
    }

    /** "The latest VERSION and the one before it can open; the latest one seals." */
    private static void latestSeals() {
        Kit.House h = Kit.house();
        for (int version = 1; version <= 4; version++) {
            byte[] key = Kit.stringToKey(18, version == 1 ? "serv" : "v" + version, "HOUSEhttpwww", 1);
            Forms.Body body = Forms.asBody();
            body.sname = Kit.WWW_NAME;
            Kit.due("kdc", h.kdc(Forms.asReq(body, Forms.shownAnna())), 0);
            Kit.due("its kvno", h.node().down(5, 3, 1).number(), version);
            Kit.due("its ETYPE", h.node().down(5, 3, 0).number(), 18);
            Kit.due("its key", Kit.opened(key, 2, h.node().down(5, 3)) != null, true);
            h.tape("v" + (version + 1)).x.change(2, 1);
        }
        // The client's own: what is shown ahead, and what the reply is sealed by.
        h = Kit.house();
        h.tape("other").x.change(1, 3);
        Kit.due("the one before shows nothing", h.kdc(Forms.asReq(Forms.asBody(), Forms.shownAnna())), 24);
        byte[] latest = Kit.stringToKey(18, "other", "HOUSEanna", 3);
        Kit.due("the latest does", h.kdc(Forms.asReq(Forms.asBody(), Forms.shown(latest, Kit.NOW))), 0);
        Kit.due("and seals", Kit.opened(latest, 3, h.node().down(6)) != null, true);
        // The centre's own: a TGT of the VERSION before is good, one of two before is not.
        h = Kit.house();
        h.agent(0, "anna:secret", 2);
        Kit.due("a TGT", h.fetch(0, 1, 0, "krbtgt/HOUSE", 0, 4, 36000), 0);
        Kit.due("change", h.tape("a").x.change(0, 1), 2);
        Kit.due("the one before", h.fetch(0, 2, 0, "http/www", 0, 4, 36000), 1);
        Kit.due("change", h.tape("b").x.change(0, 1), 3);
        h.request(0, 2, 0, "http/www", 0, 4, 36000);
        Kit.due("two before", h.carry().x.kdc(), 44);
    }

    private static Kit.Node ticketAt(Kit.House h, int clock, int options) {
        h.x.clock(clock);
        Forms.Body body = Forms.asBody();
        body.sname = Kit.WWW_NAME;
        body.till = Kit.time(0);
        body.options = Kit.flags(options);
        Kit.due("kdc", h.kdc(Forms.asReq(body, Forms.shown(Kit.ANNA_18, clock))), 0);
        return new Kit.Node(Kit.opened(Kit.WWW_18, 2, h.node().down(5, 3)));
    }

    /** "LIFE .. 1 .. 1000000", "36000 at first". */
    private static void lifeAtItsEnds() {
        for (int clock : new int[] {0, Kit.NOW, 2000000000}) {
            Kit.House h = Kit.house();
            Kit.same("LIFE at first", ticketAt(h, clock, 0).down(7).whole, Kit.time(clock + 36000));
            for (int life : new int[] {1, 2, 35999, 36000, 36001, 999999, 1000000}) {
                h.x.policy(1, 0, life);
                h.x.policy(2, 0, 1000000);
                Kit.same("the client's LIFE " + life, ticketAt(h, clock, 0).down(7).whole, Kit.time(clock + life));
            }
            h = Kit.house();
            for (int life : new int[] {1, 2, 35999, 36000, 36001, 999999, 1000000}) {
                h.x.policy(1, 0, 1000000);
                h.x.policy(2, 0, life);
                Kit.same("the service's LIFE " + life, ticketAt(h, clock, 0).down(7).whole, Kit.time(clock + life));
            }
        }
    }

    /** "RENEW .. 1 .. 10000000", "72000 at first". */
    private static void renewAtItsEnds() {
        int renewable = 0x00800000;
        for (int clock : new int[] {0, Kit.NOW, 2000000000}) {
            Kit.House h = Kit.house();
            Kit.same("RENEW at first", ticketAt(h, clock, renewable).down(8).whole, Kit.time(clock + 72000));
            for (int renew : new int[] {1, 71999, 72000, 72001, 9999999, 10000000}) {
                h.x.policy(1, 1, renew);
                h.x.policy(2, 1, 10000000);
                Kit.same("the client's RENEW " + renew, ticketAt(h, clock, renewable).down(8).whole, Kit.time(clock + renew));
            }
            h = Kit.house();
            for (int renew : new int[] {1, 71999, 72000, 72001, 9999999, 10000000}) {
                h.x.policy(1, 1, 10000000);
                h.x.policy(2, 1, renew);
                Kit.same("the service's RENEW " + renew, ticketAt(h, clock, renewable).down(8).whole, Kit.time(clock + renew));
            }
        }
    }

    /** "ENDS, when it expires (0: never)", "the CLOCK is at ENDS or behind it". */
    private static void endsAtTheirEnds() {
        int[] ends = {0, 1, Kit.NOW - 1, Kit.NOW, Kit.NOW + 1, 1999999999, 2000000000};
        int[] clocks = {0, 1, 2, Kit.NOW, 1999999999, 2000000000};
        for (int end : ends) {
            for (int clock : clocks) {
                Kit.House h = Kit.house();
                boolean over = end > 0 && clock >= end;
                Forms.Body body = Forms.asBody();
                body.sname = Kit.WWW_NAME;
                body.till = Kit.time(0);
                h.x.clock(clock);
                Kit.due("ENDS", h.x.policy(1, 3, end), true);
                byte[] request = Forms.asReq(body, Forms.shown(Kit.ANNA_18, clock));
                Kit.due("client's " + end + " at " + clock, h.kdc(request), over ? 1 : 0);
                h.x.policy(1, 3, 0);
                h.x.policy(2, 3, end);
                Kit.due("service's " + end + " at " + clock, h.kdc(request), over ? 2 : 0);
            }
        }
    }

    /** "2 + 4 + 8 + 1 at first": of a new one, and of 'krbtgt/HOUSE'. */
    private static void flagsAtFirst() {
        Kit.House h = Kit.house();
        Forms.Body body = Forms.asBody();
        body.options = Kit.flags(0x50800000);
        Kit.due("it must show itself ahead", h.kdc(Forms.asReq(body)), 25);
        Kit.due("is a service, not locked", h.kdc(Forms.asReq(body, Forms.shownAnna())), 0);
        Kit.Node part = new Kit.Node(Kit.opened(Kit.TGS_18, 2, h.node().down(5, 3)));
        Kit.same("forwardable, proxiable, renewable", part.down(0).whole, Kit.flags(0x50E00000));
        body.cname = Kit.TGS_NAME;
        body.sname = Kit.ANNA_NAME;
        Kit.due("so must 'krbtgt/HOUSE'", h.kdc(Forms.asReq(body)), 25);
        Kit.due("with its password '' and COUNT 1", h.kdc(Forms.asReq(body, Forms.shown(Kit.TGS_18, Kit.NOW))), 0);
        Kit.due("and of 17", h.kdc(Forms.asReq(body, Forms.shown(Kit.TGS_17, Kit.NOW))), 0);
    }

    /** policy: "false for other numbers, or no such principal", and nothing becomes of it. */
    private static void refusedPolicy() {
        Kit.House h = Kit.house();
        int[][] refused = {{1, 0, 0}, {1, 0, 1000001}, {1, 1, 0}, {1, 1, 10000001}, {1, 2, 64}, {1, 2, -1}, {1, 3, 2000000001},
            {1, 3, -1}, {1, 4, 1}, {1, -1, 1}, {3, 0, 1}, {-1, 2, 32}};
        for (int[] r : refused) {
            Kit.due("policy", h.x.policy(r[0], r[1], r[2]), false);
        }
        Kit.Node part = ticketAt(h, Kit.NOW, 0x50800000);
        Kit.same("FLAGS", part.down(0).whole, Kit.flags(0x50E00000));
        Kit.same("LIFE", part.down(7).whole, Kit.time(Kit.NOW + 36000));
        Kit.same("RENEW", part.down(8).whole, Kit.time(Kit.NOW + 72000));
        // FLAGS 63 and 0 are the last that are taken.
        Kit.due("63", h.x.policy(1, 2, 63), true);
        Kit.due("locked", h.kdc(Forms.asReq(Forms.asBody())), 18);
        Kit.due("0", h.x.policy(1, 2, 0), true);
        Kit.due("nothing to show", h.kdc(Forms.asReq(Forms.asBody())), 0);
    }

    /** room: "false for other numbers", and ROOM stays. */
    private static void refusedRoom() {
        Kit.House h = Kit.house();
        Kit.due("room(1)", h.x.room(1), true);
        for (int none : new int[] {0, -1, 33, Integer.MIN_VALUE, Integer.MAX_VALUE}) {
            Kit.due("room(" + none + ")", h.x.room(none), false);
        }
        Forms.Proof proof = new Forms.Proof();
        Kit.due("one", h.tape(Forms.visit(Forms.wwwPass(), proof, false)).x.serve(2), 0);
        proof.cusec = Kit.num(1);
        Kit.due("and no more", h.tape(Forms.visit(Forms.wwwPass(), proof, false)).x.serve(2), -29);
        Kit.due("room(2)", h.x.room(2), true);
        Kit.due("a second", h.tape(Forms.visit(Forms.wwwPass(), proof, false)).x.serve(2), 1);
        proof.cusec = Kit.num(2);
        Kit.due("and no more", h.tape(Forms.visit(Forms.wwwPass(), proof, false)).x.serve(2), -29);
    }
}
