/** Promises 8 to 11: principal, change, policy, room. */
public final class PrincipalTest {
    public static void main(String[] args) {
        names();
        passwords();
        counts();
        twelve();
        keysOfPasswords();
        change();
        policy();
        room();
        roomOfEach();
        Kit.finish();
    }

    private static void names() {
        Kit.House h = new Kit.House();
        String[] bad = {"", ":", "anna", ":secret", "Anna:x", "1anna:x", "an na:x", "anna/:x", "/anna:x", "a//b:x",
            "a/b/c:x", "abcdefghijklmnopq:x", "a/abcdefghijklmnopq:x", "krbtgt/HOUSE:x", "krbtgt/HOUSE:", "anna_:x",
            "\u00e4:x", "a\u0000:x", "anna /x:y", "krbtgt/HOUSe:x"};
        for (String name : bad) {
            Kit.due("principal '" + name + "'", h.principal(name, 1), -1);
            Kit.due("the TAPE is empty behind it", h.x.end(1), false);
        }
        String[] good = {"a:x", "abcdefghijklmnop:x", "a1:x", "a/1:x", "abcdefghijklmnop/abcdefghijklmnop:x", "krbtgt:x",
            "krbtgt/house:x", "z9/0z:x"};
        for (int k = 0; k < good.length; k++) {
            Kit.due("principal '" + good[k] + "'", h.principal(good[k], 1), k + 1);
            Kit.due("the TAPE is empty behind it", h.x.end(1), false);
            Kit.due("again", h.principal(good[k], 1), -1);
            Kit.due("again with another password", h.principal(good[k] + "y", 1), -1);
        }
    }

    private static void passwords() {
        Kit.House h = new Kit.House();
        Kit.due("20 bytes", h.principal("a:01234567890123456789", 1), 1);
        Kit.due("21 bytes", h.principal("b:012345678901234567890", 1), -1);
        Kit.due("none", h.principal("b:", 1), 2);
        Kit.due("32 and 126", h.principal("c: ~:", 1), 3);
        Kit.due("31", h.principal("d:\u001f", 1), -1);
        Kit.due("127", h.principal("d:\u007f", 1), -1);
        Kit.due("255", h.principal("d:\u00ff", 1), -1);
    }

    private static void counts() {
        Kit.House h = new Kit.House();
        int[] bad = {0, -1, 201, 4096, Integer.MIN_VALUE, Integer.MAX_VALUE};
        for (int count : bad) {
            Kit.due("COUNT " + count, h.principal("a:x", count), -1);
            Kit.due("the TAPE is empty behind it", h.x.end(1), false);
        }
        Kit.due("COUNT 200", h.principal("a:x", 200), 1);
        Kit.due("COUNT 1", h.principal("b:x", 1), 2);
    }

    private static void twelve() {
        Kit.House h = new Kit.House();
        for (int p = 1; p < 12; p++) {
            Kit.due("principal " + p, h.principal("p" + p + ":x", 1), p);
        }
        Kit.due("the thirteenth", h.principal("more:x", 1), -1);
        Kit.due("policy of the last", h.x.policy(11, 0, 5), true);
        Kit.due("policy of none", h.x.policy(12, 0, 5), false);
    }

    /** A reply tells which key sealed it. */
    private static void opensWith(Kit.House h, String who, String salt, String password, int count, int version) {
        Forms.Body body = Forms.asBody();
        body.cname = Kit.name(1, who.split("/"));
        for (int type = 17; type <= 18; type++) {
            body.etype = Forms.etypes(type);
            byte[] key = Kit.stringToKey(type, password, salt, count);
            Kit.due("AS of " + who, h.kdc(Forms.asReq(body, Forms.shown(key, Kit.NOW))), 0);
            Kit.Node reply = h.node();
            Kit.due(who + "'s key " + type + " opens", Kit.opened(key, 3, reply.down(6)) != null, true);
            Kit.due("its VERSION", reply.down(6, 1).number(), version);
            byte[] info = Kit.seq(Kit.seq(Kit.f(0, Kit.num(type)), Kit.f(1, Kit.text(salt)),
                Kit.f(2, Kit.oct(Kit.word(count)))));
            Kit.same("its ETYPE-INFO2", reply.down(2).whole, Kit.seq(Kit.pa(19, info)));
        }
    }

    private static void keysOfPasswords() {
        Kit.House h = new Kit.House();
        h.principal("anna:secret", 2);
        h.principal("http/www:01234567890123456789", 200);
        h.principal("abcdefghijklmnop/qrstuvwxyz012345: a:b", 3);
        h.principal("e:", 1);
        opensWith(h, "anna", "HOUSEanna", "secret", 2, 1);
        opensWith(h, "http/www", "HOUSEhttpwww", "01234567890123456789", 200, 1);
        opensWith(h, "abcdefghijklmnop/qrstuvwxyz012345", "HOUSEabcdefghijklmnopqrstuvwxyz012345", " a:b", 3, 1);
        opensWith(h, "e", "HOUSEe", "", 1, 1);
        opensWith(h, "krbtgt/HOUSE", "HOUSEkrbtgtHOUSE", "", 1, 1);
        h.tape("other").x.change(1, 7);
        opensWith(h, "anna", "HOUSEanna", "other", 7, 2);
    }

    private static void change() {
        Kit.House h = Kit.house();
        Kit.due("change of 3", h.tape("x").x.change(3, 1), -1);
        Kit.due("the TAPE is empty behind it", h.x.end(1), false);
        Kit.due("change of -1", h.tape("x").x.change(-1, 1), -1);
        Kit.due("change of 12", h.tape("x").x.change(12, 1), -1);
        Kit.due("COUNT 0", h.tape("x").x.change(1, 0), -1);
        Kit.due("COUNT 201", h.tape("x").x.change(1, 201), -1);
        Kit.due("21 bytes", h.tape("012345678901234567890").x.change(1, 1), -1);
        Kit.due("a byte 31", h.tape("\u001f").x.change(1, 1), -1);
        // The latest VERSION and the one before it open a ticket.
        Forms.Pass first = Forms.wwwPass();
        Kit.due("VERSION 1", visit(h, first, 0), 0);
        Kit.due("change", h.tape("two").x.change(2, 1), 2);
        Kit.due("the TAPE is empty behind it", h.x.end(1), false);
        Kit.due("VERSION 1 still", visit(h, first, 1), 1);
        first.sealing = Kit.WWW_17;
        Kit.due("VERSION 1 of 17 still", visit(h, first, 9), 2);
        first.sealing = Kit.WWW_18;
        h.x.ends(2);
        Forms.Pass second = Forms.wwwPass();
        second.sealing = Kit.stringToKey(18, "two", "HOUSEhttpwww", 1);
        second.kvno = 2;
        Kit.due("VERSION 2", visit(h, second, 2), 2);
        Kit.due("change", h.tape("").x.change(2, 200), 3);
        Kit.due("VERSION 1 no more", visit(h, first, 3), -44);
        Kit.due("VERSION 2 still", visit(h, second, 4), 3);
        second.kvno = 4;
        Kit.due("VERSION 4 is none", visit(h, second, 5), -44);
        second.kvno = 0;
        Kit.due("VERSION 0 is none", visit(h, second, 5), -44);
        second.kvno = 3;
        Kit.due("VERSION 3 has another key", visit(h, second, 6), -31);
        second.sealing = Kit.stringToKey(17, "", "HOUSEhttpwww", 200);
        second.kvno = Kit.NONE;
        Kit.due("no kvno is the latest", visit(h, second, 7), 4);
        h = Kit.house();
        first.kvno = 0;
        Kit.due("VERSION 0 of one", visit(h, first, 8), -44);
        first.kvno = 4294967295L;
        Kit.due("VERSION 2^32 - 1", visit(h, first, 8), -44);
    }

    private static int visit(Kit.House h, Forms.Pass pass, int micro) {
        Forms.Proof proof = new Forms.Proof();
        proof.cusec = Kit.num(micro);
        return h.tape(Forms.visit(pass, proof, false)).x.serve(2);
    }

    private static void policy() {
        Kit.House h = Kit.house();
        int[][] bad = {{0, 0, 0}, {0, 0, 1000001}, {0, 1, 0}, {0, 1, 10000001}, {0, 2, -1}, {0, 2, 64}, {0, 3, -1},
            {0, 3, 2000000001}, {0, 4, 1}, {0, -1, 1}, {3, 0, 1}, {-1, 0, 1}, {12, 0, 1},
            {0, Integer.MIN_VALUE, 1}, {Integer.MAX_VALUE, 0, 1}, {0, 0, Integer.MIN_VALUE}};
        for (int[] p : bad) {
            Kit.due("policy " + p[0] + " " + p[1] + " " + p[2], h.x.policy(p[0], p[1], p[2]), false);
        }
        int[][] good = {{0, 0, 1}, {0, 0, 1000000}, {0, 1, 1}, {0, 1, 10000000}, {0, 2, 0}, {0, 2, 63}, {0, 3, 0},
            {0, 3, 2000000000}, {2, 0, 1}};
        for (int[] p : good) {
            Kit.due("policy " + p[0] + " " + p[1] + " " + p[2], h.x.policy(p[0], p[1], p[2]), true);
        }
    }

    private static void room() {
        Kit.House h = Kit.house();
        Kit.due("room(0)", h.x.room(0), false);
        Kit.due("room(33)", h.x.room(33), false);
        Kit.due("room(-1)", h.x.room(-1), false);
        h.agent(0, "anna:secret", 2);
        Forms.give(h, 0, Forms.wwwPass());
        byte[] first = presented(h);
        byte[] last = first;
        for (int k = 0; k < 32; k++) {
            Kit.due("visit " + k, h.carry().x.serve(2), 0);
            h.x.ends(0);
            last = k == 30 ? presented(h) : last;
            if (k != 30) {
                h.x.present(0, 0, 0);
            }
        }
        byte[] more = h.out();
        Kit.due("the 33rd at first", h.carry().x.serve(2), -29);
        Kit.due("one that is there is told before", h.tape(last).x.serve(2), -34);
        Kit.due("room(1)", h.x.room(1), true);
        Kit.due("what is kept stays", h.tape(first).x.serve(2), -34);
        Kit.due("room(32)", h.x.room(32), true);
        Kit.due("still none", h.tape(more).x.serve(2), -29);
        // Old ones are forgotten when another one comes: at 300 seconds not yet, at 301.
        h.x.clock(Kit.NOW + 300);
        h.x.present(0, 0, 0);
        byte[] late = h.out();
        Kit.due("none forgotten yet", h.carry().x.serve(2), -29);
        h.x.clock(Kit.NOW + 301);
        Kit.due("all forgotten", h.tape(late).x.serve(2), 0);
        h.x.clock(Kit.NOW);
        Kit.due("what was forgotten may come anew", h.tape(last).x.serve(2), 1);
    }

    private static byte[] presented(Kit.House h) {
        h.x.present(0, 0, 0);
        return h.out();
    }

    /** Each service has its own, and the centre's is not that of 'krbtgt/HOUSE' as a service. */
    private static void roomOfEach() {
        Kit.House h = Kit.house();
        h.x.room(1);
        Forms.Pass pass = new Forms.Pass();
        Forms.Proof proof = new Forms.Proof();
        Kit.due("a service's room", visit(h, Forms.wwwPass(), 0), 0);
        Kit.due("is full", visit(h, Forms.wwwPass(), 1), -29);
        Kit.due("another service's room", h.tape(Forms.visit(pass, proof, false)).x.serve(0), 1);
        Kit.due("the centre's room", h.kdc(Forms.tgsReq(Forms.tgsBody(), pass, proof)), 0);
        Kit.due("there already", h.kdc(Forms.tgsReq(Forms.tgsBody(), pass, proof)), 34);
        proof.cusec = Kit.num(1);
        Kit.due("is full", h.kdc(Forms.tgsReq(Forms.tgsBody(), pass, proof)), 29);
    }
}
