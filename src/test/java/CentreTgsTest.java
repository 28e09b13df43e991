/** Promise 12, kdc: what it answers to a TGS-REQ, and its errors in their order. */
public final class CentreTgsTest {
    private static final int FORWARDABLE = 0x40000000;
    private static final int FORWARDED = 0x20000000;
    private static final int PROXIABLE = 0x10000000;
    private static final int PROXY = 0x08000000;
    private static final int RENEWABLE = 0x00800000;
    private static final int RENEWABLE_OK = 0x10;
    private static final int RENEW = 2;

    public static void main(String[] args) {
        wholeReply();
        replyWithoutSubkey();
        orderOfTheProof();
        orderOfTheSeal();
        orderOfTheAuthenticator();
        orderOfTheRest();
        names();
        seen();
        options();
        flags();
        times();
        renewed();
        addresses();
        Kit.finish();
    }

    /** The TGS-REP byte by byte, and the order of its COINS. */
    private static void wholeReply() {
        Kit.House h = Kit.house();
        Forms.Body body = Forms.tgsBody();
        body.cname = Kit.name(1, "ignored");
        body.sname = Kit.name(9, "http", "www");
        body.options = Kit.flags(FORWARDABLE | RENEWABLE);
        body.etype = Forms.etypes(17);
        body.addresses = Kit.seq(Kit.pair(2, Kit.bytes(9, 9, 9, 9)));
        Forms.Pass pass = new Forms.Pass();
        pass.cname = Kit.name(42, "anna");
        pass.authtime = Kit.time(Kit.NOW - 1000);
        pass.starttime = Kit.time(Kit.NOW - 900);
        pass.endtime = Kit.time(Kit.NOW + 77);
        pass.renewTill = Kit.time(Kit.NOW + 99);
        pass.caddr = Kit.seq(Kit.pair(2, Kit.bytes(1, 2, 3, 4)));
        pass.authorization = Kit.seq(Kit.pair(1, Kit.bytes(1)));
        Forms.Proof proof = new Forms.Proof();
        proof.subkey = Kit.key(Kit.KEY_B);
        Kit.due("kdc", h.kdc(Forms.tgsReq(body, pass, proof)), 0);
        Kit.Coins coins = new Kit.Coins(Kit.ascii("coins"));
        byte[] key = coins.next(16);
        byte[] times = Kit.cat(Kit.f(5, pass.authtime), Kit.f(6, Kit.time(Kit.NOW)), Kit.f(7, pass.endtime),
            Kit.f(8, pass.renewTill));
        byte[] part = Kit.app(3, Kit.seq(Kit.f(0, Kit.flags(0x40A00000)), Kit.f(1, Kit.key(key)),
            Kit.f(2, Kit.text("HOUSE")), Kit.f(3, pass.cname), Kit.f(4, Kit.pair(1, Kit.NIL)), times,
            Kit.f(9, pass.caddr)));
        byte[] ticket = Kit.app(1, Kit.seq(Kit.f(0, Kit.num(5)), Kit.f(1, Kit.text("HOUSE")), Kit.f(2, body.sname),
            Kit.f(3, Kit.encrypted(18, 1, Kit.seal(Kit.WWW_18, 2, coins.next(16), part)))));
        byte[] told = Kit.app(26, Kit.seq(Kit.f(0, Kit.key(key)),
            Kit.f(1, Kit.seq(Kit.seq(Kit.f(0, Kit.num(0)), Kit.f(1, Kit.time(Kit.NOW))))), Kit.f(2, body.nonce),
            Kit.f(4, Kit.flags(0x40A00000)), times, Kit.f(9, Kit.text("HOUSE")), Kit.f(10, body.sname),
            Kit.f(11, pass.caddr)));
        byte[] reply = Kit.app(13, Kit.seq(Kit.f(0, Kit.num(5)), Kit.f(1, Kit.num(13)), Kit.f(3, Kit.text("HOUSE")),
            Kit.f(4, pass.cname), Kit.f(5, ticket),
            Kit.f(6, Kit.encrypted(17, Kit.NONE, Kit.seal(Kit.KEY_B, 9, coins.next(16), told)))));
        Kit.same("TGS-REP", h.out(), reply);
        Kit.due("the TAPE is empty behind it", h.x.end(1), false);
    }

    /** No subkey, or none that is good: the ticket's key, USAGE 8. */
    private static void replyWithoutSubkey() {
        byte[][] subkeys = {null, Kit.pair(23, new byte[16]), Kit.pair(18, new byte[16]), Kit.pair(17, new byte[32]),
            Kit.pair(17, Kit.NIL)};
        for (byte[] subkey : subkeys) {
            Kit.House h = Kit.house();
            Forms.Proof proof = new Forms.Proof();
            proof.subkey = subkey;
            Kit.due("kdc", h.kdc(Forms.tgsReq(Forms.tgsBody(), new Forms.Pass(), proof)), 0);
            Kit.due("opens", Kit.opened(Kit.KEY_A, 8, h.node().down(6)) != null, true);
            Kit.due("no kvno", h.node().down(6, 1) == null, true);
        }
        Kit.House h = Kit.house();
        Forms.Pass pass = new Forms.Pass();
        pass.session = Kit.KEY_B;
        pass.sealing = Kit.TGS_17;
        pass.kvno = Kit.NONE;
        Forms.Proof proof = new Forms.Proof();
        proof.subkey = Kit.key(Kit.KEY_A);
        Kit.due("kdc", h.kdc(Forms.tgsReq(Forms.tgsBody(), pass, proof)), 0);
        Kit.due("opens by a subkey of another type", Kit.opened(Kit.KEY_A, 9, h.node().down(6)) != null, true);
    }

    private static void refused(String what, Kit.House h, byte[] request, int code, byte[] sname) {
        Kit.due(what, h.kdc(request), code);
        Kit.same(what, h.out(), Kit.error(Kit.NOW, code, null, null, sname, null));
    }

    /** Each step leaves one thing wrong less: the code of the first that is so. */
    private static void orderOfTheProof() {
        Kit.House h = Kit.house();
        Forms.Body body = Forms.tgsBody();
        body.sname = null;
        body.realm = Kit.text("house");
        byte[] bad = Kit.pa(1, Kit.NIL);
        refused("pvno", h, Kit.app(12, Kit.seq(Kit.f(1, Kit.num(6)), Kit.f(2, Kit.num(10)), Kit.f(4, body.der()))), 3,
            Kit.TGS_NAME);
        refused("msg-type", h, Kit.app(12, Kit.seq(Kit.f(1, Kit.num(5)), Kit.f(2, Kit.num(10)), Kit.f(4, body.der()))), 40,
            Kit.TGS_NAME);
        refused("no sname", h, Forms.kdcReq(12, body.der(), bad), 7, Kit.TGS_NAME);
        body.sname = Kit.name(1, "nobody");
        refused("realm", h, Forms.kdcReq(12, body.der(), bad), 68, body.sname);
        body.realm = Kit.text("HOUSE");
        refused("no padata", h, Forms.kdcReq(12, body.der()), 25, body.sname);
        refused("none of type 1", h, Forms.kdcReq(12, body.der(), Kit.pa(2, Kit.NIL)), 25, body.sname);
        refused("BROKEN", h, Forms.kdcReq(12, body.der(), Kit.pa(2, Kit.NIL), bad), 60, body.sname);
        Forms.Pass pass = new Forms.Pass();
        pass.version = Kit.num(4);
        pass.realm = Kit.text("OTHER");
        pass.sname = Kit.name(2, "krbtgt", "house");
        byte[] no = Kit.encrypted(23, 9, Kit.NIL);
        byte[] proof = Kit.encrypted(17, Kit.NONE, Kit.NIL);
        byte[] ap = Forms.apReq(Kit.num(4), Kit.num(15), Kit.flags(-1), pass.der(no), proof);
        refused("something behind", h, Forms.tgsReq(body, Kit.cat(ap, Kit.bytes(0))), 60, body.sname);
        refused("its pvno", h, Forms.tgsReq(body, ap), 3, body.sname);
        ap = Forms.apReq(Kit.num(5), Kit.num(15), Kit.flags(-1), pass.der(no), proof);
        refused("its msg-type", h, Forms.tgsReq(body, ap), 40, body.sname);
        ap = Forms.apReq(Kit.num(5), Kit.num(14), Kit.flags(-1), pass.der(no), proof);
        refused("tkt-vno", h, Forms.tgsReq(body, ap), 39, body.sname);
        pass.version = Kit.num(5);
        refused("ticket's realm", h, Forms.tgsReq(body, Forms.apReq(pass.der(no), proof)), 35, body.sname);
        pass.realm = Kit.text("HOUSE");
        refused("ticket's sname", h, Forms.tgsReq(body, Forms.apReq(pass.der(no), proof)), 35, body.sname);
        pass.sname = Kit.name(-1, "krbtgt", "HOUSE");
        refused("kvno", h, Forms.tgsReq(body, Forms.apReq(pass.der(no), proof)), 44, body.sname);
        no = Kit.encrypted(23, 1, Kit.NIL);
        refused("etype", h, Forms.tgsReq(body, Forms.apReq(pass.der(no), proof)), 14, body.sname);
        no = Kit.encrypted(18, 1, Kit.seal(Kit.TGS_18, 3, new byte[16], pass.text()));
        refused("not opened", h, Forms.tgsReq(body, Forms.apReq(pass.der(no), proof)), 31, body.sname);
        no = Kit.encrypted(17, 1, Kit.seal(Kit.TGS_18, 2, new byte[16], pass.text()));
        refused("not opened by 17", h, Forms.tgsReq(body, Forms.apReq(pass.der(no), proof)), 31, body.sname);
    }

    private static void orderOfTheSeal() {
        Kit.House h = Kit.house();
        Forms.Body body = Forms.tgsBody();
        byte[] sname = body.sname;
        byte[] none = Kit.encrypted(17, Kit.NONE, Kit.NIL);
        Forms.Pass pass = new Forms.Pass();
        pass.part = 4;
        pass.key = Kit.pair(18, new byte[16]);
        refused("no EncTicketPart", h, Forms.tgsReq(body, Forms.apReq(pass.der(), none)), 60, sname);
        pass.part = 3;
        pass.crealm = Kit.text("OTHER");
        refused("crealm", h, Forms.tgsReq(body, Forms.apReq(pass.der(), none)), 60, sname);
        pass.crealm = Kit.text("HOUSE");
        pass.cname = Kit.name(1, "x".repeat(20), "y".repeat(17));
        refused("41 bytes of parts", h, Forms.tgsReq(body, Forms.apReq(pass.der(), none)), 60, sname);
        pass.cname = Kit.name(1, "x".repeat(20), "y".repeat(16));
        refused("40 bytes of parts, then the key", h, Forms.tgsReq(body, Forms.apReq(pass.der(), none)), 14, sname);
        byte[][] keys = {Kit.pair(17, new byte[32]), Kit.pair(17, Kit.NIL), Kit.pair(16, new byte[16]), Kit.pair(18, new byte[33])};
        for (byte[] key : keys) {
            pass.key = key;
            refused("key", h, Forms.tgsReq(body, Forms.apReq(pass.der(), none)), 14, sname);
        }
    }

    private static void orderOfTheAuthenticator() {
        Kit.House h = Kit.house();
        Forms.Body body = Forms.tgsBody();
        byte[] sname = body.sname;
        Forms.Pass pass = new Forms.Pass();
        pass.cname = Kit.name(1, "x".repeat(20), "y".repeat(16));
        Forms.Proof proof = new Forms.Proof();
        proof.part = 3;
        byte[] sealed = Kit.sealed(Kit.KEY_B, 7, Kit.NONE, proof.text());
        refused("authenticator of another etype", h, Forms.tgsReq(body, Forms.apReq(pass.der(), sealed)), 31, sname);
        sealed = Kit.sealed(pass.session, 11, Kit.NONE, proof.text());
        refused("authenticator of another usage", h, Forms.tgsReq(body, Forms.apReq(pass.der(), sealed)), 31, sname);
        sealed = Kit.sealed(pass.session, 7, 77, proof.text());
        refused("no Authenticator", h, Forms.tgsReq(body, Forms.apReq(pass.der(), sealed)), 60, sname);
        proof.part = 2;
        proof.crealm = Kit.text("OTHER");
        proof.ctime = Kit.time(Kit.NOW + 301);
        refused("authenticator's crealm", h, tgsUnsummed(body, pass, proof), 36, sname);
        proof.crealm = Kit.text("HOUSE");
        refused("authenticator's cname", h, tgsUnsummed(body, pass, proof), 36, sname);
        proof.cname = Kit.name(5, "x".repeat(20), "y".repeat(16));
        refused("ctime", h, tgsUnsummed(body, pass, proof), 37, sname);
        proof.ctime = Kit.time(Kit.NOW - 301);
        refused("ctime", h, tgsUnsummed(body, pass, proof), 37, sname);
        proof.ctime = Kit.time(Kit.NOW - 300);
        refused("no cksum", h, tgsUnsummed(body, pass, proof), 50, sname);
        refused("there already, though it failed", h, tgsUnsummed(body, pass, proof), 34, sname);
        h.x.room(1);
        proof.cusec = Kit.num(1);
        refused("no room", h, tgsUnsummed(body, pass, proof), 29, sname);
    }

    private static byte[] tgsUnsummed(Forms.Body body, Forms.Pass pass, Forms.Proof proof) {
        return Forms.tgsReq(body, Forms.apReq(pass.der(), Kit.sealed(pass.session, 7, Kit.NONE, proof.text())));
    }

    private static void orderOfTheRest() {
        Kit.House h = Kit.house();
        Forms.Body body = Forms.tgsBody();
        body.sname = Kit.name(2, "nobody");
        body.options = Kit.flags(1 | FORWARDED | PROXY | RENEW);
        body.etype = Forms.etypes(1, 2, 3);
        body.till = Kit.time(1);
        body.from = Kit.time(2145916799);
        Forms.Pass pass = new Forms.Pass();
        pass.starttime = Kit.time(Kit.NOW + 301);
        pass.endtime = Kit.time(Kit.NOW);
        pass.flags = Kit.flags(0);
        pass.renewTill = null;
        pass.cname = Kit.name(1, "gone");
        Forms.Proof proof = new Forms.Proof();
        proof.cname = pass.cname;
        int micro = 0;
        byte[] sum = Kit.sum(pass.session, 6, body.der());
        byte[][] sums = {Kit.pair(15, sum), Kit.pair(18, sum), Kit.pair(16, Kit.NIL), Kit.pair(16, new byte[12]),
            Kit.pair(16, java.util.Arrays.copyOf(sum, 11)), Kit.pair(16, Kit.cat(sum, Kit.bytes(0))),
            Kit.checksum(pass.session, 7, body.der()), Kit.checksum(pass.session, 6, Kit.f(4, body.der()))};
        int[] codes = {50, 50, 41, 41, 41, 41, 41, 41};
        for (int k = 0; k < sums.length; k++) {
            proof.cksum = sums[k];
            proof.cusec = Kit.num(micro++);
            refused("cksum " + k, h, tgsUnsummed(body, pass, proof), codes[k], body.sname);
        }
        h = Kit.house();
        step(h, "starttime", body, pass, proof, 33);
        pass.starttime = null;
        pass.authtime = Kit.time(Kit.NOW + 301);
        step(h, "authtime in its place", body, pass, proof, 33);
        pass.authtime = Kit.time(Kit.NOW + 300);
        step(h, "endtime", body, pass, proof, 32);
        pass.endtime = Kit.time(Kit.NOW + 1);
        step(h, "client gone", body, pass, proof, 6);
        pass.cname = Kit.ANNA_NAME;
        proof.cname = Kit.name(8, "anna");
        h.x.policy(1, 2, 32);
        h.x.policy(1, 3, Kit.NOW);
        step(h, "client locked", body, pass, proof, 18);
        h.x.policy(1, 2, 0);
        step(h, "client expired", body, pass, proof, 1);
        h.x.policy(1, 3, 0);
        step(h, "sname", body, pass, proof, 7);
        body.sname = Kit.WWW_NAME;
        h.x.policy(2, 2, 32);
        h.x.policy(2, 3, 1);
        step(h, "service locked", body, pass, proof, 12);
        h.x.policy(2, 2, 16);
        step(h, "no service", body, pass, proof, 12);
        h.x.policy(2, 2, 0);
        step(h, "service expired", body, pass, proof, 2);
        h.x.policy(2, 3, 0);
        step(h, "options", body, pass, proof, 13);
        body.options = Kit.flags(FORWARDED);
        step(h, "not forwardable", body, pass, proof, 13);
        body.options = Kit.flags(PROXY);
        step(h, "not proxiable", body, pass, proof, 13);
        body.options = Kit.flags(0);
        step(h, "etype", body, pass, proof, 14);
        body.etype = Forms.etypes(17);
        step(h, "till", body, pass, proof, 11);
        body.till = Kit.time(0);
        step(h, "all right", body, pass, proof, 0);
    }

    private static int stepMicro = 100;

    private static void step(Kit.House h, String what, Forms.Body body, Forms.Pass pass, Forms.Proof proof, int code) {
        proof.cusec = Kit.num(stepMicro++);
        int got = h.kdc(Forms.tgsReq(body, pass, proof));
        Kit.due(what, got, code);
        if (code != 0) {
            Kit.same(what, h.out(), Kit.error(Kit.NOW, code, null, null, body.sname, null));
        }
    }

    /** Names go by their parts, and krbtgt/HOUSE is a client or a service like another. */
    private static void names() {
        Kit.House h = Kit.house();
        Forms.Pass pass = new Forms.Pass();
        pass.cname = Kit.name(0, "krbtgt", "HOUSE");
        Forms.Proof proof = new Forms.Proof();
        proof.cname = Kit.name(3, "krbtgt", "HOUSE");
        Forms.Body body = Forms.tgsBody();
        body.sname = Kit.name(99, "anna");
        step(h, "krbtgt/HOUSE goes to anna", body, pass, proof, 0);
        proof.cname = Kit.name(3, "krbtgt/HOUSE");
        step(h, "one part is not two", body, pass, proof, 36);
        pass.cname = Kit.name(3, "krbtgt/HOUSE");
        step(h, "nor a principal's", body, pass, proof, 6);
        h.tape("one").x.change(0, 1);
        pass = new Forms.Pass();
        proof = new Forms.Proof();
        step(h, "the VERSION before the latest", body, pass, proof, 0);
        pass.kvno = Kit.NONE;
        step(h, "no kvno is the latest", body, pass, proof, 31);
        h.tape("two").x.change(0, 1);
        pass.kvno = 1;
        step(h, "two before", body, pass, proof, 44);
    }

    private static void seen() {
        Kit.House h = Kit.house();
        Forms.Pass pass = new Forms.Pass();
        Forms.Proof proof = new Forms.Proof();
        Forms.Body body = Forms.tgsBody();
        Kit.due("first", h.kdc(Forms.tgsReq(body, pass, proof)), 0);
        Kit.due("again", h.kdc(Forms.tgsReq(body, pass, proof)), 34);
        body.nonce = Kit.num(8);
        Kit.due("again, another request", h.kdc(Forms.tgsReq(body, pass, proof)), 34);
        proof.cname = Kit.name(9, "anna");
        Kit.due("again, another name-type", h.kdc(Forms.tgsReq(body, pass, proof)), 34);
        proof.ctime = Kit.time(Kit.NOW + 1);
        Kit.due("another ctime", h.kdc(Forms.tgsReq(body, pass, proof)), 0);
        proof.cusec = Kit.num(5);
        Kit.due("another cusec", h.kdc(Forms.tgsReq(body, pass, proof)), 0);
        pass.cname = Kit.WWW_NAME;
        proof.cname = Kit.WWW_NAME;
        Kit.due("another cname", h.kdc(Forms.tgsReq(body, pass, proof)), 0);
        proof.cname = Kit.name(9, "anna");
        pass.cname = Kit.ANNA_NAME;
        h.x.clock(Kit.NOW + 301);
        Kit.due("not forgotten at 300", h.kdc(Forms.tgsReq(body, pass, proof)), 34);
        h.x.clock(Kit.NOW);
        proof.ctime = Kit.time(Kit.NOW);
        proof.cusec = Kit.num(0);
        Kit.due("but the one of 301 was", h.kdc(Forms.tgsReq(body, pass, proof)), 0);
    }

    private static void options() {
        for (int bit = 0; bit < 33; bit++) {
            Kit.House h = Kit.house();
            Forms.Body body = Forms.tgsBody();
            boolean may = bit == 1 || bit == 2 || bit == 3 || bit == 4 || bit == 8 || bit == 15 || bit == 26 || bit == 27;
            body.options = bit == 32 ? Kit.tlv(3, Kit.bytes(0, 0, 0, 0, 0, 0x80)) : Kit.flags(1 << (31 - bit));
            Forms.Pass pass = new Forms.Pass();
            Kit.due("option " + bit, h.kdc(Forms.tgsReq(body, pass, new Forms.Proof())), may ? 0 : 13);
        }
        Kit.House h = Kit.house();
        Forms.Body body = new Forms.Body();
        Forms.Pass pass = new Forms.Pass();
        Forms.Proof proof = new Forms.Proof();
        body.options = Kit.flags(PROXY);
        step(h, "proxy for krbtgt/HOUSE", body, pass, proof, 13);
        body.options = Kit.flags(RENEW);
        step(h, "renew for krbtgt/HOUSE", body, pass, proof, 0);
        body.sname = Kit.WWW_NAME;
        step(h, "renew for another", body, pass, proof, 13);
        body.sname = Kit.TGS_NAME;
        pass.flags = Kit.flags(~RENEWABLE);
        step(h, "renew of one not renewable", body, pass, proof, 13);
        pass.flags = Kit.flags(RENEWABLE);
        pass.renewTill = null;
        step(h, "renew without renew-till", body, pass, proof, 13);
        pass.renewTill = Kit.time(Kit.NOW);
        body.etype = Forms.etypes();
        step(h, "renew too late", body, pass, proof, 32);
        pass.renewTill = Kit.time(0);
        step(h, "renew far too late", body, pass, proof, 32);
        pass.renewTill = Kit.time(Kit.NOW + 1);
        step(h, "renew just in time, but no etype", body, pass, proof, 14);
        body.options = Kit.flags(RENEW | FORWARDED | PROXY);
        step(h, "all three", body, pass, proof, 13);
    }

    private static int flagsOf(Kit.House h, int options, int ticket, int till) {
        Forms.Body body = Forms.tgsBody();
        body.options = Kit.flags(options);
        body.till = Kit.time(till);
        Forms.Pass pass = new Forms.Pass();
        pass.flags = Kit.flags(ticket);
        Forms.Proof proof = new Forms.Proof();
        step(h, "kdc", body, pass, proof, 0);
        Kit.Node part = new Kit.Node(Kit.opened(Kit.WWW_18, 2, h.node().down(5, 3)));
        byte[] bits = part.down(0).inner;
        return (bits[1] & 255) << 24 | (bits[2] & 255) << 16 | (bits[3] & 255) << 8 | bits[4] & 255;
    }

    private static void flags() {
        int[] bits = {FORWARDABLE, PROXIABLE, RENEWABLE};
        int all = FORWARDABLE | PROXIABLE | RENEWABLE;
        Kit.House h = Kit.house();
        h.x.policy(1, 2, 0);
        Kit.due("nothing asked for", flagsOf(h, 0, all, 0), 0);
        Kit.due("all of a ticket that has all, whatever its client may", flagsOf(h, all, all, 0), all);
        Kit.due("initial goes, pre-authent stays", flagsOf(h, 0, -1, 0), FORWARDED | PROXY | 0x00200000);
        for (int k = 0; k < 3; k++) {
            Kit.due("the ticket is not", flagsOf(h, all, all & ~bits[k], 0), all & ~bits[k]);
            h.x.policy(2, 2, 15 & ~(2 << k));
            Kit.due("the service may not", flagsOf(h, all, all, 0), all & ~bits[k]);
            h.x.policy(2, 2, 15);
        }
        h = Kit.house();
        Kit.due("forwarded", flagsOf(h, FORWARDED, all, 0), FORWARDED);
        Kit.due("proxy", flagsOf(h, PROXY, all, 0), PROXY);
        Kit.due("both were", flagsOf(h, 0, FORWARDED | PROXY, 0), FORWARDED | PROXY);
        Kit.due("renewable-ok, till is reached", flagsOf(h, RENEWABLE_OK, all, Kit.NOW + 36000), 0);
        Kit.due("renewable-ok, till is later", flagsOf(h, RENEWABLE_OK, all, Kit.NOW + 36001), RENEWABLE);
        Kit.due("renewable-ok, without end", flagsOf(h, RENEWABLE_OK, all, 0), RENEWABLE);
        Kit.due("renewable-ok, the ticket is not", flagsOf(h, RENEWABLE_OK, 0, 0), 0);
    }

    private static void dueTimes(Kit.House h, Forms.Body body, Forms.Pass pass, byte[] service, long end, long renew) {
        Forms.Proof proof = new Forms.Proof();
        step(h, "kdc", body, pass, proof, 0);
        Kit.Node part = new Kit.Node(Kit.opened(service, 2, h.node().down(5, 3)));
        Kit.Node told = new Kit.Node(Kit.opened(Kit.KEY_A, 8, h.node().down(6)));
        for (Kit.Node node : new Kit.Node[] {part, told}) {
            Kit.same("authtime", node.down(5).whole, pass.authtime);
            Kit.same("starttime", node.down(6).whole, Kit.time(Kit.NOW));
            Kit.same("endtime", node.down(7).whole, Kit.time(end));
            Kit.due("renew-till", node.down(8) != null, renew >= 0);
            if (renew >= 0) {
                Kit.same("renew-till", node.down(8).whole, Kit.time(renew));
            }
        }
    }

    private static void times() {
        Kit.House h = Kit.house();
        Forms.Body body = Forms.tgsBody();
        Forms.Pass pass = new Forms.Pass();
        body.till = Kit.time(0);
        pass.endtime = Kit.time(Kit.NOW + 90000);
        pass.renewTill = Kit.time(Kit.NOW + 90000);
        dueTimes(h, body, pass, Kit.WWW_18, Kit.NOW + 36000, -1);
        h.x.policy(1, 0, 30000);
        dueTimes(h, body, pass, Kit.WWW_18, Kit.NOW + 30000, -1);
        h.x.policy(2, 0, 29000);
        dueTimes(h, body, pass, Kit.WWW_18, Kit.NOW + 29000, -1);
        pass.endtime = Kit.time(Kit.NOW + 28000);
        dueTimes(h, body, pass, Kit.WWW_18, Kit.NOW + 28000, -1);
        body.till = Kit.time(Kit.NOW + 27000);
        dueTimes(h, body, pass, Kit.WWW_18, Kit.NOW + 27000, -1);
        body.options = Kit.flags(RENEWABLE);
        dueTimes(h, body, pass, Kit.WWW_18, Kit.NOW + 27000, Kit.NOW + 72000);
        h.x.policy(1, 1, 60000);
        dueTimes(h, body, pass, Kit.WWW_18, Kit.NOW + 27000, Kit.NOW + 60000);
        h = Kit.house();
        h.x.policy(2, 1, 50000);
        dueTimes(h, body, pass, Kit.WWW_18, Kit.NOW + 27000, Kit.NOW + 50000);
        pass.renewTill = Kit.time(Kit.NOW + 40000);
        dueTimes(h, body, pass, Kit.WWW_18, Kit.NOW + 27000, Kit.NOW + 40000);
        body.rtime = Kit.time(Kit.NOW + 30000);
        dueTimes(h, body, pass, Kit.WWW_18, Kit.NOW + 27000, Kit.NOW + 30000);
        body.options = Kit.flags(RENEWABLE_OK);
        body.till = Kit.time(Kit.NOW + 39000);
        dueTimes(h, body, pass, Kit.WWW_18, Kit.NOW + 28000, Kit.NOW + 39000);
        pass.renewTill = null;
        dueTimes(h, body, pass, Kit.WWW_18, Kit.NOW + 28000, Kit.NOW + 39000);
    }

    private static void renewed() {
        Kit.House h = Kit.house();
        h.x.policy(0, 0, 1);
        h.x.policy(0, 1, 1);
        h.x.policy(0, 2, 0);
        h.x.policy(1, 2, 0);
        Forms.Body body = new Forms.Body();
        body.options = Kit.flags(RENEW);
        body.till = Kit.time(1);
        body.rtime = Kit.time(1);
        Forms.Pass pass = new Forms.Pass();
        pass.authtime = Kit.time(Kit.NOW - 9000);
        pass.starttime = Kit.time(Kit.NOW - 1000);
        pass.endtime = Kit.time(Kit.NOW + 500);
        pass.flags = Kit.flags(-1);
        dueTimes(h, body, pass, Kit.TGS_18, Kit.NOW + 1500, Kit.NOW + 72000);
        Kit.Node part = new Kit.Node(Kit.opened(Kit.TGS_18, 2, h.node().down(5, 3)));
        Kit.same("flags, without initial", part.down(0).whole, Kit.flags(~0x00400000));
        pass.starttime = null;
        dueTimes(h, body, pass, Kit.TGS_18, Kit.NOW + 9500, Kit.NOW + 72000);
        pass.renewTill = Kit.time(Kit.NOW + 9499);
        dueTimes(h, body, pass, Kit.TGS_18, Kit.NOW + 9499, Kit.NOW + 9499);
        pass.flags = Kit.flags(RENEWABLE | 0x00400000);
        body.options = Kit.flags(RENEW | FORWARDABLE | PROXIABLE | RENEWABLE);
        dueTimes(h, body, pass, Kit.TGS_18, Kit.NOW + 9499, Kit.NOW + 9499);
        part = new Kit.Node(Kit.opened(Kit.TGS_18, 2, h.node().down(5, 3)));
        Kit.same("flags, as the ticket's", part.down(0).whole, Kit.flags(RENEWABLE));
        pass.starttime = Kit.time(Kit.NOW + 300);
        pass.endtime = Kit.time(Kit.NOW + 300);
        step(h, "a life of nothing", body, pass, new Forms.Proof(), 11);
        pass.endtime = Kit.time(Kit.NOW + 1);
        step(h, "a life below nothing", body, pass, new Forms.Proof(), 11);
    }

    private static void dueAddress(int options, int flags, byte[] asked, byte[] had, byte[] want) {
        Kit.House h = Kit.house();
        Forms.Body body = (options & RENEW) != 0 ? new Forms.Body() : Forms.tgsBody();
        body.options = Kit.flags(options);
        body.addresses = asked;
        Forms.Pass pass = new Forms.Pass();
        pass.flags = Kit.flags(flags);
        pass.caddr = had;
        step(h, "kdc", body, pass, new Forms.Proof(), 0);
        byte[] service = (options & RENEW) != 0 ? Kit.TGS_18 : Kit.WWW_18;
        Kit.Node part = new Kit.Node(Kit.opened(service, 2, h.node().down(5, 3)));
        Kit.Node told = new Kit.Node(Kit.opened(Kit.KEY_A, 8, h.node().down(6)));
        Kit.same("caddr sealed", part.down(9) == null ? Kit.NIL : part.down(9).whole, want == null ? Kit.NIL : want);
        Kit.same("caddr told", told.down(11) == null ? Kit.NIL : told.down(11).whole, want == null ? Kit.NIL : want);
    }

    private static void addresses() {
        byte[] one = Kit.seq(Kit.pair(2, Kit.bytes(1, 2, 3, 4)));
        byte[] two = Kit.seq(Kit.pair(2, Kit.bytes(5, 6, 7, 8)), Kit.pair(3, Kit.NIL));
        dueAddress(0, -1, one, two, two);
        dueAddress(0, -1, one, null, null);
        dueAddress(0, -1, null, two, two);
        dueAddress(FORWARDED, -1, one, two, one);
        dueAddress(FORWARDED, -1, null, two, null);
        dueAddress(PROXY, -1, one, two, one);
        dueAddress(PROXY, -1, null, two, null);
        dueAddress(RENEW, -1, one, two, two);
        dueAddress(RENEW | FORWARDED, -1, one, two, one);
    }
}
