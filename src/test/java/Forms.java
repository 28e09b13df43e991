/** Messages whose every field a test may set, left out (null) or written wrong. */
final class Forms {
    private Forms() {
    }

    static byte[] etypes(int... types) {
        byte[] all = Kit.NIL;
        for (int type : types) {
            all = Kit.cat(all, Kit.num(type));
        }
        return Kit.seq(all);
    }

    static final class Body {
        byte[] options = Kit.flags(0);
        byte[] cname = null;
        byte[] realm = Kit.text("HOUSE");
        byte[] sname = Kit.TGS_NAME;
        byte[] from = null;
        byte[] till = Kit.time(Kit.NOW + 36000);
        byte[] rtime = null;
        byte[] nonce = Kit.num(7);
        byte[] etype = etypes(18, 17);
        byte[] addresses = null;
        byte[] authorization = null;
        byte[] tickets = null;

        byte[] der() {
            return Kit.seq(Kit.f(0, options), Kit.f(1, cname), Kit.f(2, realm), Kit.f(3, sname), Kit.f(4, from),
                Kit.f(5, till), Kit.f(6, rtime), Kit.f(7, nonce), Kit.f(8, etype), Kit.f(9, addresses),
                Kit.f(10, authorization), Kit.f(11, tickets));
        }
    }

    static Body asBody() {
        Body body = new Body();
        body.cname = Kit.ANNA_NAME;
        return body;
    }

    static Body tgsBody() {
        Body body = new Body();
        body.sname = Kit.WWW_NAME;
        return body;
    }

    static byte[] kdcReq(int type, byte[] body, byte[]... padata) {
        return Kit.app(type, Kit.seq(Kit.f(1, Kit.num(5)), Kit.f(2, Kit.num(type)),
            Kit.f(3, padata.length == 0 ? null : Kit.seq(padata)), Kit.f(4, body)));
    }

    static byte[] asReq(Body body, byte[]... padata) {
        return kdcReq(10, body.der(), padata);
    }

    /** PA-DATA that shows anna ahead, or one that has the key. */
    static byte[] shown(byte[] key, int time) {
        byte[] text = Kit.seq(Kit.f(0, Kit.time(time)), Kit.f(1, Kit.num(0)));
        return Kit.pa(2, Kit.sealed(key, 1, Kit.NONE, text));
    }

    static byte[] shownAnna() {
        return shown(Kit.ANNA_18, Kit.NOW);
    }

    /** A ticket that the test has made itself, with the service's key. */
    static final class Pass {
        byte[] version = Kit.num(5);
        byte[] realm = Kit.text("HOUSE");
        byte[] sname = Kit.TGS_NAME;
        byte[] sealing = Kit.TGS_18;
        long kvno = 1;
        byte[] flags = Kit.flags(0x50E00000);
        byte[] session = Kit.KEY_A;
        byte[] key = null;
        byte[] crealm = Kit.text("HOUSE");
        byte[] cname = Kit.ANNA_NAME;
        byte[] transited = Kit.pair(1, Kit.NIL);
        byte[] authtime = Kit.time(Kit.NOW);
        byte[] starttime = Kit.time(Kit.NOW);
        byte[] endtime = Kit.time(Kit.NOW + 36000);
        byte[] renewTill = Kit.time(Kit.NOW + 72000);
        byte[] caddr = null;
        byte[] authorization = null;
        int part = 3;

        byte[] text() {
            return Kit.app(part, Kit.seq(Kit.f(0, flags), Kit.f(1, key == null ? Kit.key(session) : key),
                Kit.f(2, crealm), Kit.f(3, cname), Kit.f(4, transited), Kit.f(5, authtime), Kit.f(6, starttime),
                Kit.f(7, endtime), Kit.f(8, renewTill), Kit.f(9, caddr), Kit.f(10, authorization)));
        }

        byte[] der() {
            return der(Kit.sealed(sealing, 2, kvno, text()));
        }

        byte[] der(byte[] encrypted) {
            return Kit.app(1, Kit.seq(Kit.f(0, version), Kit.f(1, realm), Kit.f(2, sname), Kit.f(3, encrypted)));
        }
    }

    static Pass wwwPass() {
        Pass pass = new Pass();
        pass.sname = Kit.WWW_NAME;
        pass.sealing = Kit.WWW_18;
        return pass;
    }

    static final class Proof {
        byte[] version = Kit.num(5);
        byte[] crealm = Kit.text("HOUSE");
        byte[] cname = Kit.ANNA_NAME;
        byte[] cksum = null;
        byte[] cusec = Kit.num(0);
        byte[] ctime = Kit.time(Kit.NOW);
        byte[] subkey = null;
        byte[] number = null;
        byte[] authorization = null;
        int part = 2;

        byte[] text() {
            return Kit.app(part, Kit.seq(Kit.f(0, version), Kit.f(1, crealm), Kit.f(2, cname), Kit.f(3, cksum),
                Kit.f(4, cusec), Kit.f(5, ctime), Kit.f(6, subkey), Kit.f(7, number), Kit.f(8, authorization)));
        }
    }

    static byte[] apReq(byte[] pvno, byte[] type, byte[] options, byte[] ticket, byte[] authenticator) {
        return Kit.app(14, Kit.seq(Kit.f(0, pvno), Kit.f(1, type), Kit.f(2, options), Kit.f(3, ticket),
            Kit.f(4, authenticator)));
    }

    static byte[] apReq(byte[] ticket, byte[] authenticator) {
        return apReq(Kit.num(5), Kit.num(14), Kit.flags(0), ticket, authenticator);
    }

    /** A TGS-REQ that is as it should be but for what is set otherwise; its cksum is made here. */
    static byte[] tgsReq(Body body, Pass pass, Proof proof) {
        proof.cksum = Kit.checksum(pass.session, 6, body.der());
        return tgsReq(body, apReq(pass.der(), Kit.sealed(pass.session, 7, Kit.NONE, proof.text())));
    }

    static byte[] tgsReq(Body body, byte[] apReq) {
        return kdcReq(12, body.der(), Kit.pa(1, apReq));
    }

    /** An AP-REQ for a service, with mutual-required or not. */
    static byte[] visit(Pass pass, Proof proof, boolean mutual) {
        return apReq(Kit.num(5), Kit.num(14), Kit.flags(mutual ? 0x20000000 : 0), pass.der(),
            Kit.sealed(pass.session, 11, Kit.NONE, proof.text()));
    }

    /** EncKDCRepPart and the reply around it, for an agent to take. */
    static final class Reply {
        int type = 11;
        int part = 25;
        byte[] pvno = Kit.num(5);
        byte[] msgType = null;
        byte[] padata = null;
        byte[] crealm = Kit.text("HOUSE");
        byte[] cname = Kit.ANNA_NAME;
        byte[] ticket = new Pass().der();
        byte[] sealing = Kit.ANNA_18;
        int usage = 3;
        byte[] key = Kit.key(Kit.KEY_A);
        byte[] lastReq = Kit.seq(Kit.seq(Kit.f(0, Kit.num(0)), Kit.f(1, Kit.time(Kit.NOW))));
        byte[] nonce = Kit.num(7);
        byte[] expiration = null;
        byte[] flags = Kit.flags(0x40E00000);
        byte[] authtime = Kit.time(Kit.NOW);
        byte[] starttime = Kit.time(Kit.NOW);
        byte[] endtime = Kit.time(Kit.NOW + 36000);
        byte[] renewTill = null;
        byte[] srealm = Kit.text("HOUSE");
        byte[] sname = Kit.TGS_NAME;
        byte[] caddr = null;

        byte[] text() {
            return Kit.app(part, Kit.seq(Kit.f(0, key), Kit.f(1, lastReq), Kit.f(2, nonce), Kit.f(3, expiration),
                Kit.f(4, flags), Kit.f(5, authtime), Kit.f(6, starttime), Kit.f(7, endtime), Kit.f(8, renewTill),
                Kit.f(9, srealm), Kit.f(10, sname), Kit.f(11, caddr)));
        }

        byte[] der() {
            return Kit.app(type, Kit.seq(Kit.f(0, pvno), Kit.f(1, msgType == null ? Kit.num(type) : msgType),
                Kit.f(2, padata), Kit.f(3, crealm), Kit.f(4, cname), Kit.f(5, ticket),
                Kit.f(6, Kit.sealed(sealing, usage, Kit.NONE, text()))));
        }
    }

    /** AGENT a asks for http/www and gets a ticket that the test has made: the TICKET's number. */
    static int give(Kit.House h, int a, Pass pass) {
        h.request(a, 0, 0, "http/www", 0, 4, 36000);
        Reply reply = new Reply();
        reply.nonce = h.node().down(4, 7).whole;
        reply.ticket = pass.der();
        reply.sname = Kit.WWW_NAME;
        reply.key = Kit.key(pass.session);
        return h.tape(reply.der()).x.take(a);
    }

    static byte[] address(int side) {
        return Kit.pair(2, Kit.bytes(10, 0, 0, side));
    }

    /** The fields of EncKrbPrivPart and of KRB-SAFE-BODY. */
    static final class Data {
        byte[] data = Kit.oct(Kit.ascii("hello"));
        byte[] timestamp = Kit.time(Kit.NOW);
        byte[] usec = Kit.num(0);
        byte[] number = Kit.num(0);
        byte[] sender = address(0);
        byte[] receiver = null;

        byte[] der() {
            return Kit.seq(Kit.f(0, data), Kit.f(1, timestamp), Kit.f(2, usec), Kit.f(3, number), Kit.f(4, sender),
                Kit.f(5, receiver));
        }

        byte[] priv(byte[] key) {
            return priv(Kit.num(5), Kit.num(21), Kit.sealed(key, 13, Kit.NONE, Kit.app(28, der())));
        }

        byte[] safe(byte[] key) {
            return safe(Kit.num(5), Kit.num(20), Kit.checksum(key, 15, der()));
        }

        byte[] safe(byte[] pvno, byte[] type, byte[] cksum) {
            return Kit.app(20, Kit.seq(Kit.f(0, pvno), Kit.f(1, type), Kit.f(2, der()), Kit.f(3, cksum)));
        }

        static byte[] priv(byte[] pvno, byte[] type, byte[] encrypted) {
            return Kit.app(21, Kit.seq(Kit.f(0, pvno), Kit.f(1, type), Kit.f(3, encrypted)));
        }
    }

    /** EncKrbCredPart with one ticket-info, and KRB-CRED around it. */
    static final class Cred {
        byte[] pvno = Kit.num(5);
        byte[] type = Kit.num(22);
        byte[] tickets = Kit.seq(new Pass().der());
        byte[] infos = null;
        byte[] nonce = null;
        byte[] timestamp = Kit.time(Kit.NOW);
        byte[] usec = Kit.num(0);
        int part = 29;
        byte[] key = Kit.key(Kit.KEY_B);
        byte[] prealm = Kit.text("HOUSE");
        byte[] pname = Kit.ANNA_NAME;
        byte[] flags = Kit.flags(0x40E00000);
        byte[] authtime = Kit.time(Kit.NOW - 5);
        byte[] starttime = Kit.time(Kit.NOW - 4);
        byte[] endtime = Kit.time(Kit.NOW + 500);
        byte[] renewTill = Kit.time(Kit.NOW + 900);
        byte[] srealm = Kit.text("HOUSE");
        byte[] sname = Kit.TGS_NAME;
        byte[] caddr = null;

        byte[] info() {
            return Kit.seq(Kit.f(0, key), Kit.f(1, prealm), Kit.f(2, pname), Kit.f(3, flags), Kit.f(4, authtime),
                Kit.f(5, starttime), Kit.f(6, endtime), Kit.f(7, renewTill), Kit.f(8, srealm), Kit.f(9, sname),
                Kit.f(10, caddr));
        }

        byte[] text() {
            return Kit.app(part, Kit.seq(Kit.f(0, infos == null ? Kit.seq(info()) : infos), Kit.f(1, nonce),
                Kit.f(2, timestamp), Kit.f(3, usec)));
        }

        byte[] der(byte[] sealing) {
            return Kit.app(22, Kit.seq(Kit.f(0, pvno), Kit.f(1, type), Kit.f(2, tickets),
                Kit.f(3, Kit.sealed(sealing, 14, Kit.NONE, text()))));
        }
    }
}
