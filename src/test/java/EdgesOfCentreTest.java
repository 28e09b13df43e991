/** Part III at its edges: what the centre still takes and what it takes no more; each method has its sentence before it. */
public final class EdgesOfCentreTest {
    private static final int FORWARDED = 0x20000000;
    private static final int PROXY = 0x08000000;
    private static final int RENEWABLE = 0x00800000;
    private static final int RENEWABLE_OK = 0x10;
    private static final int RENEW = 2;

    public static void main(String[] args) {
        firstBytes();
        versionsAndTypes();
        realms();
        from();
        optionsBeyond();
        lastOfSixteen();
        shownAtTheEnds();
        tillAtTheClock();
        tillOfTgs();
        authenticatorsTime();
        ticketsTimes();
        clientsAndServicesOfTgs();
        checksumsBytes();
        renewTillOfNought();
        renewedEnds();
        renewedFarAhead();
        renewableOkOfTgs();
        fortyBytes();
        nonces();
        fullTape();
        longError();
        seenIsFull();
        Kit.finish();
    }

    private static int micro = 0;

    /** The answer to a TGS-REQ whose authenticator is a new one. */
    private static int tgs(Kit.House h, Forms.Body body, Forms.Pass pass, Forms.Proof proof) {
        proof.cusec = Kit.num(micro++);
        return h.kdc(Forms.tgsReq(body, pass, proof));
    }

    private static Kit.Node ticketOf(Kit.House h, byte[] service) {
        return new Kit.Node(Kit.opened(service, 2, h.node().down(5, 3)));
    }

    /** "As AS-REQ (first byte 106), as TGS-REQ (108), another first byte: 60." */
    private static void firstBytes() {
        byte[] good = Forms.asReq(Forms.asBody());
        for (int first = 0; first < 256; first++) {
            byte[] other = good.clone();
            other[0] = (byte) first;
            int want = first == 106 ? 25 : first == 108 ? 40 : 60;
            Kit.due("first byte " + first, Kit.house().kdc(other), want);
        }
        Kit.due("a request of AS in the other's", Kit.house().kdc(Forms.kdcReq(12, Forms.asBody().der())), 25);
    }

    /** "pvno not 5: 3. msg-type not 10 (12): 40." */
    private static void versionsAndTypes() {
        byte[] body = Forms.asBody().der();
        for (int number : new int[] {Integer.MIN_VALUE, -5, 0, 4, 5, 6, 10, 11, 12, 13, 261, 266, 268, Integer.MAX_VALUE}) {
            byte[] version = Kit.seq(Kit.f(1, Kit.num(number)), Kit.f(2, Kit.num(10)), Kit.f(4, body));
            Kit.due("pvno " + number, Kit.house().kdc(Kit.app(10, version)), number == 5 ? 25 : 3);
            byte[] type = Kit.seq(Kit.f(1, Kit.num(5)), Kit.f(2, Kit.num(number)), Kit.f(4, body));
            Kit.due("msg-type " + number, Kit.house().kdc(Kit.app(10, type)), number == 10 ? 25 : 40);
            Kit.due("msg-type of TGS " + number, Kit.house().kdc(Kit.app(12, type)), number == 12 ? 25 : 40);
            Forms.Pass pass = new Forms.Pass();
            byte[] none = Kit.encrypted(17, Kit.NONE, Kit.NIL);
            byte[] ap = Forms.apReq(Kit.num(number), Kit.num(14), Kit.flags(0), pass.der(), none);
            Kit.due("AP-REQ's pvno " + number, Kit.house().kdc(Forms.tgsReq(Forms.tgsBody(), ap)), number == 5 ? 31 : 3);
            ap = Forms.apReq(Kit.num(5), Kit.num(number), Kit.flags(0), pass.der(), none);
            Kit.due("AP-REQ's msg-type " + number, Kit.house().kdc(Forms.tgsReq(Forms.tgsBody(), ap)), 40);
            pass.version = Kit.num(number);
            ap = Forms.apReq(pass.der(), none);
            Kit.due("tkt-vno " + number, Kit.house().kdc(Forms.tgsReq(Forms.tgsBody(), ap)), number == 5 ? 31 : 39);
        }
    }

    /** "Its realm not 'HOUSE'": 68; of a ticket 35, sealed in it 60, of an authenticator 36. */
    private static void realms() {
        String[] others = {"", "HOUS", "HOUSEX", "xOUSE", "HxUSE", "HOxSE", "HOUxE", "HOUSx", "house", " HOUSE", "HOUSE ", "H"};
        for (String other : others) {
            Forms.Body body = Forms.asBody();
            body.realm = Kit.text(other);
            Kit.House h = Kit.house();
            Kit.due("realm '" + other + "'", h.kdc(Forms.asReq(body)), 68);
            Kit.same("is the error's crealm", h.node().down(7).whole, body.realm);
            Kit.due("realm of TGS '" + other + "'", h.kdc(Forms.kdcReq(12, body.der())), 68);
            Forms.Pass pass = new Forms.Pass();
            pass.realm = Kit.text(other);
            Kit.due("ticket's realm '" + other + "'", tgs(h, Forms.tgsBody(), pass, new Forms.Proof()), 35);
            pass = new Forms.Pass();
            pass.crealm = Kit.text(other);
            Kit.due("ticket's crealm '" + other + "'", tgs(h, Forms.tgsBody(), pass, new Forms.Proof()), 60);
            Forms.Proof proof = new Forms.Proof();
            proof.crealm = Kit.text(other);
            Kit.due("authenticator's crealm '" + other + "'", tgs(h, Forms.tgsBody(), new Forms.Pass(), proof), 36);
        }
    }

    /** "from is there and more than 300 seconds after the CLOCK: 10." */
    private static void from() {
        for (int clock : new int[] {0, 300, Kit.NOW, 2000000000}) {
            int[] offs = {-clock, -1, 0, 299, 300, 301, 100000};
            for (int off : offs) {
                if (clock + off >= 0) {
                    Kit.House h = Kit.house();
                    h.x.policy(1, 2, 14);
                    h.x.clock(clock);
                    Forms.Body body = Forms.asBody();
                    body.till = Kit.time(0);
                    body.from = Kit.time(clock + off);
                    Kit.due("from " + off + " at " + clock, h.kdc(Forms.asReq(body)), off > 300 ? 10 : 0);
                }
            }
        }
        Kit.House h = Kit.house();
        Forms.Body body = Forms.tgsBody();
        body.from = Kit.time(Kit.NOW + 301);
        Kit.due("TGS does not look at it", tgs(h, body, new Forms.Pass(), new Forms.Proof()), 0);
    }

    /** "A bit of kdc-options other than ..., bits beyond 31: 13", whatever the service. */
    private static void optionsBeyond() {
        int may = 0x40000000 | 0x10000000 | RENEWABLE | 0x00010000 | 0x20 | RENEWABLE_OK;
        for (int bit = 0; bit < 72; bit++) {
            byte[] bits = new byte[10];
            bits[1 + bit / 8] = (byte) (0x80 >> bit % 8);
            byte[] options = Kit.tlv(3, java.util.Arrays.copyOf(bits, bit < 32 ? 5 : 10));
            boolean as = bit < 32 && (may & 0x80000000 >>> bit) != 0;
            Forms.Body body = Forms.asBody();
            body.options = options;
            Kit.due("AS, bit " + bit, Kit.house().kdc(Forms.asReq(body, Forms.shownAnna())), as ? 0 : 13);
            body = new Forms.Body();
            body.options = options;
            boolean tgs = as || bit == 2 || bit == 30;
            Kit.due("TGS for itself, bit " + bit, tgs(Kit.house(), body, new Forms.Pass(), new Forms.Proof()), tgs ? 0 : 13);
            body.sname = Kit.WWW_NAME;
            tgs = as || bit == 2 || bit == 4;
            Kit.due("TGS, bit " + bit, tgs(Kit.house(), body, new Forms.Pass(), new Forms.Proof()), tgs ? 0 : 13);
        }
    }

    private static byte[][] padata(int count, int at, byte[] entry) {
        byte[][] row = new byte[count][];
        for (int k = 0; k < count; k++) {
            row[k] = k == at ? entry : Kit.pa(7, Kit.NIL);
        }
        return row;
    }

    /** "Rows of at most 16": the last of sixteen counts as the first does. */
    private static void lastOfSixteen() {
        byte[] proof = Kit.sealed(Kit.KEY_A, 7, Kit.NONE, new Forms.Proof().text());
        byte[] ap = Kit.pa(1, Forms.apReq(new Forms.Pass().der(), proof));
        for (int at = 0; at < 16; at++) {
            byte[][] shown = padata(16, at, Forms.shownAnna());
            Kit.due("shown by padata " + at, Kit.house().kdc(Forms.asReq(Forms.asBody(), shown)), 0);
            byte[][] proved = padata(16, at, ap);
            Kit.due("AP-REQ in padata " + at, Kit.house().kdc(Forms.kdcReq(12, Forms.tgsBody().der(), proved)), 50);
            int[] types = new int[16];
            types[at] = 18;
            Forms.Body body = Forms.asBody();
            body.etype = Forms.etypes(types);
            Kit.due("etype " + at, Kit.house().kdc(Forms.asReq(body, Forms.shownAnna())), 0);
            if (at > 0) {
                types[0] = 17;
                body.etype = Forms.etypes(types);
                Kit.House h = Kit.house();
                Kit.due("not shown", h.kdc(Forms.asReq(body)), 25);
                Kit.Node methods = new Kit.Node(h.node().down(12).inner);
                Kit.Node info = new Kit.Node(methods.parts.get(1).down(2).inner);
                Kit.due("two entries", info.parts.size(), 2);
                Kit.due("E first", info.parts.get(0).down(0).number(), 17);
                Kit.due("then the other one", info.parts.get(1).down(0).number(), 18);
            }
        }
    }

    /** "Its patimestamp is more than 300 seconds off the CLOCK: 37." */
    private static void shownAtTheEnds() {
        for (int clock : new int[] {0, 300, 301, Kit.NOW, 2000000000}) {
            for (int off : new int[] {-301, -300, -299, 0, 299, 300, 301}) {
                if (clock + off >= 0) {
                    Kit.House h = Kit.house();
                    h.x.clock(clock);
                    Forms.Body body = Forms.asBody();
                    body.till = Kit.time(0);
                    Kit.due("shown " + off + " at " + clock, h.kdc(Forms.asReq(body, Forms.shown(Kit.ANNA_18, clock + off))),
                        Math.abs(off) > 300 ? 37 : 0);
                }
            }
        }
    }

    /** "endtime: the least of till (0 of 1970 means without end) ..: at or before the CLOCK: 11." */
    private static void tillAtTheClock() {
        for (int clock : new int[] {0, 1, 2, Kit.NOW, 2000000000}) {
            for (int till : new int[] {0, 1, 2, clock - 1, clock, clock + 1, clock + 35999, clock + 36000, clock + 36001}) {
                if (till >= 0) {
                    Kit.House h = Kit.house();
                    h.x.clock(clock);
                    Forms.Body body = Forms.asBody();
                    body.till = Kit.time(till);
                    int code = h.kdc(Forms.asReq(body, Forms.shown(Kit.ANNA_18, clock)));
                    long end = till == 0 ? clock + 36000L : Math.min(till, clock + 36000L);
                    Kit.due("till " + till + " at " + clock, code, end <= clock ? 11 : 0);
                    if (code == 0) {
                        Kit.same("its endtime", ticketOf(h, Kit.TGS_18).down(7).whole, Kit.time(end));
                    }
                }
            }
        }
    }

    /** Of TGS the ticket's endtime, too. */
    private static void tillOfTgs() {
        for (int end : new int[] {1, 2, 35999, 36000, 36001}) {
            for (int till : new int[] {-1, 0, 1, 2, 35999, 36000, 36001}) {
                Kit.House h = Kit.house();
                Forms.Body body = Forms.tgsBody();
                body.till = Kit.time(Kit.NOW + till);
                Forms.Pass pass = new Forms.Pass();
                pass.endtime = Kit.time(Kit.NOW + end);
                int want = Math.min(Math.min(end, till), 36000);
                Kit.due("till " + till, tgs(h, body, pass, new Forms.Proof()), want <= 0 ? 11 : 0);
                if (want > 0) {
                    Kit.same("its endtime", ticketOf(h, Kit.WWW_18).down(7).whole, Kit.time(Kit.NOW + want));
                }
            }
        }
    }

    /** "Its time within 300 seconds (else 37)." */
    private static void authenticatorsTime() {
        for (int clock : new int[] {0, 300, Kit.NOW, 2000000000}) {
            for (int off : new int[] {-301, -300, 0, 300, 301}) {
                if (clock + off >= 0) {
                    Kit.House h = Kit.house();
                    h.x.clock(clock);
                    Forms.Body body = Forms.tgsBody();
                    body.till = Kit.time(0);
                    Forms.Pass pass = new Forms.Pass();
                    pass.starttime = Kit.time(clock);
                    pass.endtime = Kit.time(clock + 9);
                    Forms.Proof proof = new Forms.Proof();
                    proof.ctime = Kit.time(clock + off);
                    Kit.due("ctime " + off + " at " + clock, tgs(h, body, pass, proof), Math.abs(off) > 300 ? 37 : 0);
                }
            }
        }
    }

    /** "The ticket's starttime (or authtime) is more than 300 seconds after the CLOCK: 33; its endtime at or before it: 32." */
    private static void ticketsTimes() {
        for (int off : new int[] {-100000, 0, 299, 300, 301, 302}) {
            Forms.Pass pass = new Forms.Pass();
            pass.starttime = Kit.time(Kit.NOW + off);
            Kit.due("starttime " + off, tgs(Kit.house(), Forms.tgsBody(), pass, new Forms.Proof()), off > 300 ? 33 : 0);
            pass.starttime = null;
            pass.authtime = Kit.time(Kit.NOW + off);
            Kit.due("authtime " + off, tgs(Kit.house(), Forms.tgsBody(), pass, new Forms.Proof()), off > 300 ? 33 : 0);
            pass.starttime = Kit.time(Kit.NOW);
            Kit.due("authtime beside starttime", tgs(Kit.house(), Forms.tgsBody(), pass, new Forms.Proof()), 0);
        }
        for (int off : new int[] {-Kit.NOW, -1, 0, 1, 2}) {
            Forms.Pass pass = new Forms.Pass();
            pass.endtime = Kit.time(Kit.NOW + off);
            Kit.due("endtime " + off, tgs(Kit.house(), Forms.tgsBody(), pass, new Forms.Proof()), off <= 0 ? 32 : 0);
        }
    }

    /** "The client is not there any more (6), locked (18), expired (1). sname ..: 7; locked, or no service: 12; expired: 2." */
    private static void clientsAndServicesOfTgs() {
        for (int p = 1; p <= 2; p++) {
            for (int ends : new int[] {0, 1, Kit.NOW - 1, Kit.NOW, Kit.NOW + 1}) {
                Kit.House h = Kit.house();
                h.x.policy(p, 3, ends);
                int code = ends > 0 && ends <= Kit.NOW ? p : 0;
                Kit.due("ENDS " + ends, tgs(h, Forms.tgsBody(), new Forms.Pass(), new Forms.Proof()), code);
            }
            for (int flags = 0; flags < 64; flags++) {
                Kit.House h = Kit.house();
                h.x.policy(p, 2, flags);
                int code = (flags & 32) != 0 ? (p == 1 ? 18 : 12) : p == 2 && (flags & 16) != 0 ? 12 : 0;
                Kit.due("FLAGS " + flags, tgs(h, Forms.tgsBody(), new Forms.Pass(), new Forms.Proof()), code);
            }
        }
    }

    /** "Over the bytes of the request's req-body as they came, USAGE 6 (else 41)": each of its 12 bytes. */
    private static void checksumsBytes() {
        for (byte[] key : new byte[][] {Kit.KEY_A, Kit.KEY_B}) {
            Forms.Body body = Forms.tgsBody();
            Forms.Pass pass = new Forms.Pass();
            pass.session = key;
            byte[] sum = Kit.sum(key, 6, body.der());
            for (int i = 0; i < 12; i++) {
                byte[] other = sum.clone();
                other[i] ^= (byte) (1 << (i % 8));
                Forms.Proof proof = new Forms.Proof();
                proof.cksum = Kit.pair(Kit.typeOf(key) - 2, other);
                byte[] ap = Forms.apReq(pass.der(), Kit.sealed(key, 7, Kit.NONE, proof.text()));
                Kit.due("byte " + i, Kit.house().kdc(Forms.tgsReq(body, ap)), 41);
            }
            for (int type : new int[] {0, 14, 15, 16, 17, 18, -15, -16}) {
                Forms.Proof proof = new Forms.Proof();
                proof.cksum = Kit.pair(type, sum);
                byte[] ap = Forms.apReq(pass.der(), Kit.sealed(key, 7, Kit.NONE, proof.text()));
                Kit.due("type " + type, Kit.house().kdc(Forms.tgsReq(body, ap)), type == Kit.typeOf(key) - 2 ? 0 : 50);
            }
        }
    }

    /** The ticket's renew-till may be 0 of 1970: of a ticket that is a time like another. */
    private static void renewTillOfNought() {
        Kit.House h = Kit.house();
        Forms.Body body = Forms.tgsBody();
        body.options = Kit.flags(RENEWABLE);
        Forms.Pass pass = new Forms.Pass();
        pass.renewTill = Kit.time(0);
        Kit.due("kdc", tgs(h, body, pass, new Forms.Proof()), 0);
        Kit.same("renew-till", ticketOf(h, Kit.WWW_18).down(8).whole, Kit.time(0));
        body.rtime = Kit.time(1);
        pass.renewTill = Kit.time(2);
        Kit.due("kdc", tgs(h, body, pass, new Forms.Proof()), 0);
        Kit.same("renew-till", ticketOf(h, Kit.WWW_18).down(8).whole, Kit.time(1));
    }

    /** "Renew: .. CLOCK + the ticket's endtime less its starttime, or its renew-till, the lesser"; "at or before the CLOCK: 11". */
    private static void renewedEnds() {
        int[][] cases = {{500, 499}, {500, 500}, {500, 501}, {1, 1}, {1, 2}, {2, 1}};
        for (int[] c : cases) {
            Kit.House h = Kit.house();
            Forms.Body body = new Forms.Body();
            body.options = Kit.flags(RENEW);
            Forms.Pass pass = new Forms.Pass();
            pass.starttime = Kit.time(Kit.NOW + 300);
            pass.endtime = Kit.time(Kit.NOW + 300 + c[0]);
            pass.renewTill = Kit.time(Kit.NOW + c[1]);
            Kit.due("renewed", tgs(h, body, pass, new Forms.Proof()), 0);
            Kit.same("endtime", ticketOf(h, Kit.TGS_18).down(7).whole, Kit.time(Kit.NOW + Math.min(c[0], c[1])));
            Kit.same("renew-till", ticketOf(h, Kit.TGS_18).down(8).whole, pass.renewTill);
        }
        for (int off : new int[] {-2, -1, 0, 1, 2}) {
            Forms.Body body = new Forms.Body();
            body.options = Kit.flags(RENEW);
            Forms.Pass pass = new Forms.Pass();
            pass.renewTill = Kit.time(Kit.NOW + off);
            Kit.due("renew-till " + off, tgs(Kit.house(), body, pass, new Forms.Proof()), off <= 0 ? 32 : 0);
            pass = new Forms.Pass();
            pass.starttime = Kit.time(Kit.NOW + 5 - off);
            pass.endtime = Kit.time(Kit.NOW + 5);
            Kit.due("a life of " + off, tgs(Kit.house(), body, pass, new Forms.Proof()), off <= 0 ? 11 : 0);
        }
    }

    /** The same at the last times that there are. */
    private static void renewedFarAhead() {
        Kit.House h = Kit.house();
        h.x.clock(2000000000);
        Forms.Body body = new Forms.Body();
        body.options = Kit.flags(RENEW);
        Forms.Pass pass = new Forms.Pass();
        pass.authtime = Kit.time(0);
        pass.starttime = null;
        pass.endtime = Kit.time(2145916799);
        pass.renewTill = Kit.time(2145916799);
        Forms.Proof proof = new Forms.Proof();
        proof.ctime = Kit.time(2000000000);
        Kit.due("renewed", tgs(h, body, pass, proof), 0);
        Kit.same("authtime", ticketOf(h, Kit.TGS_18).down(5).whole, Kit.time(0));
        Kit.same("endtime", ticketOf(h, Kit.TGS_18).down(7).whole, Kit.time(2145916799));
        Kit.same("renew-till", ticketOf(h, Kit.TGS_18).down(8).whole, Kit.time(2145916799));
    }

    /** "Renewable-ok and till .. is later than the endtime would be", where the ticket's endtime or a LIFE ends it. */
    private static void renewableOkOfTgs() {
        for (int late = -1; late <= 1; late++) {
            Kit.House h = Kit.house();
            Forms.Body body = Forms.tgsBody();
            body.options = Kit.flags(RENEWABLE_OK);
            body.till = Kit.time(Kit.NOW + 500 + late);
            Forms.Pass pass = new Forms.Pass();
            pass.endtime = Kit.time(Kit.NOW + 500);
            Kit.due("kdc", tgs(h, body, pass, new Forms.Proof()), 0);
            Kit.Node renew = ticketOf(h, Kit.WWW_18).down(8);
            Kit.due("renewable", renew != null, late > 0);
            h = Kit.house();
            h.x.policy(1, 0, 500);
            Forms.Body as = Forms.asBody();
            as.options = body.options;
            as.till = body.till;
            Kit.due("kdc", h.kdc(Forms.asReq(as, Forms.shownAnna())), 0);
            Kit.due("renewable", ticketOf(h, Kit.TGS_18).down(8) != null, late > 0);
        }
    }

    /** "Whose cname's parts have at most 40 bytes with their tags and lengths (else 60)." */
    private static void fortyBytes() {
        byte[][] names = {Kit.name(1), Kit.name(1, ""), Kit.name(1, "x".repeat(38)), Kit.name(1, "x".repeat(39)),
            Kit.name(1, "x".repeat(18), "y".repeat(18)), Kit.name(1, "x".repeat(18), "y".repeat(19)),
            Kit.name(1, "", "", "", "", "", "", "", "", "", "", "", "", "", "", "", ""),
            Kit.name(1, "", "", "", "", "", "", "", "", "", "", "", "", "", "", "", "12345678"),
            Kit.name(1, "", "", "", "", "", "", "", "", "", "", "", "", "", "", "", "123456789"), Kit.name(1, "x".repeat(200))};
        int[] codes = {6, 6, 6, 60, 6, 60, 6, 6, 60, 60};
        for (int k = 0; k < names.length; k++) {
            Forms.Pass pass = new Forms.Pass();
            pass.cname = names[k];
            Forms.Proof proof = new Forms.Proof();
            proof.cname = names[k];
            Kit.due("name " + k, tgs(Kit.house(), Forms.tgsBody(), pass, proof), codes[k]);
        }
    }

    /** nonce: of UInt32, as it came. */
    private static void nonces() {
        for (long nonce : new long[] {0, 1, 127, 128, 2147483647L, 2147483648L, 4294967295L}) {
            Kit.House h = Kit.house();
            Forms.Body body = Forms.asBody();
            body.nonce = Kit.num(nonce);
            Kit.due("AS", h.kdc(Forms.asReq(body, Forms.shownAnna())), 0);
            Kit.same("nonce", new Kit.Node(Kit.opened(Kit.ANNA_18, 3, h.node().down(6))).down(2).whole, body.nonce);
            body = Forms.tgsBody();
            body.nonce = Kit.num(nonce);
            Kit.due("TGS", tgs(h, body, new Forms.Pass(), new Forms.Proof()), 0);
            Kit.same("nonce", new Kit.Node(Kit.opened(Kit.KEY_A, 8, h.node().down(6))).down(2).whole, body.nonce);
        }
    }

    /** A request of 4000 bytes is read, and its reply, of more, is whole. */
    private static void fullTape() {
        Forms.Body body = Forms.asBody();
        body.addresses = Kit.seq(Kit.pair(2, new byte[3000]));
        int more = 4000 - Forms.asReq(body, Forms.shownAnna()).length;
        body.addresses = Kit.seq(Kit.pair(2, new byte[3000 + more]));
        byte[] request = Forms.asReq(body, Forms.shownAnna());
        Kit.due("4000 bytes", request.length, 4000);
        Kit.House h = Kit.house();
        Kit.due("kdc", h.kdc(request), 0);
        Kit.Node part = ticketOf(h, Kit.TGS_18);
        Kit.same("caddr", part.down(9).whole, body.addresses);
        Kit.same("caddr", new Kit.Node(Kit.opened(Kit.ANNA_18, 3, h.node().down(6))).down(11).whole, body.addresses);
        Forms.Body own = Forms.tgsBody();
        own.options = Kit.flags(FORWARDED);
        own.addresses = Kit.seq(Kit.pair(2, new byte[3300]));
        Kit.due("kdc", tgs(h, own, new Forms.Pass(), new Forms.Proof()), 0);
        Kit.same("caddr", ticketOf(h, Kit.WWW_18).down(9).whole, own.addresses);
        own.options = Kit.flags(PROXY);
        own.addresses = Kit.seq();
        Kit.due("kdc", tgs(h, own, new Forms.Pass(), new Forms.Proof()), 0);
    }

    /** KRB-ERROR has the request's realm and names, however long they are. */
    private static void longError() {
        Forms.Body body = Forms.asBody();
        body.realm = Kit.text("r".repeat(1200));
        body.cname = Kit.name(1, "c".repeat(1200), "");
        body.sname = Kit.name(-2147483648, "", "s".repeat(1200));
        Kit.House h = Kit.house();
        Kit.due("kdc", h.kdc(Forms.asReq(body)), 68);
        Kit.same("KRB-ERROR", h.out(), Kit.error(Kit.NOW, 68, body.realm, body.cname, body.sname, null));
    }

    /** SEEN of the centre: "at most ROOM .. are kept: if there is no room: 29", and more than 300 seconds: forgotten. */
    private static void seenIsFull() {
        Kit.House h = Kit.house();
        h.agent(0, "anna:secret", 2);
        Kit.due("a TGT", h.fetch(0, 1, 0, "krbtgt/HOUSE", 0, 4, 36000), 0);
        for (int k = 0; k < 32; k++) {
            h.request(0, 2, 0, "http/www", 0, 4, 36000);
            Kit.due("request " + k, h.carry().x.kdc(), 0);
        }
        h.request(0, 2, 0, "http/www", 0, 4, 36000);
        byte[] more = h.out();
        Kit.due("the 33rd", h.carry().x.kdc(), 29);
        Kit.due("AS has none to keep", h.kdc(Forms.asReq(Forms.asBody(), Forms.shownAnna())), 0);
        h.x.clock(Kit.NOW + 300);
        Kit.due("300 seconds behind", h.tape(more).x.kdc(), 29);
        h.x.clock(Kit.NOW + 301);
        Kit.due("it is too old itself", h.tape(more).x.kdc(), 37);
        h.request(0, 2, 0, "http/www", 0, 4, 36000);
        byte[] late = h.out();
        Kit.due("a new one finds room", h.carry().x.kdc(), 0);
        Kit.due("and is told twice", h.tape(late).x.kdc(), 34);
        h.x.clock(Kit.NOW);
        h.x.shift(0, -1);
        Kit.due("what was refused was not kept", h.tape(more).x.kdc(), 0);
    }
}
