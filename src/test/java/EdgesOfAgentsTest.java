/** Part IV at its edges: clocks, REQUEST's ranges, TAKEN's answers, the eight TICKETS; each method has its sentence before it. */
public final class EdgesOfAgentsTest {
    private static final int RENEW = 2;

    public static void main(String[] args) {
        numbersOfAgents();
        refusedAgent();
        shiftAtItsEnds();
        clockAtItsEnds();
        rangesOfRequests();
        spansWritten();
        farthestTill();
        refusedRequest();
        etypesWritten();
        highestBits();
        numbersOfNought();
        takenInOrder();
        takenOfTgsInOrder();
        takenOnce();
        refusedTake();
        namesTaken();
        nonceTaken();
        startAtItsEnds();
        codesOfErrors();
        eightTickets();
        ticketsNumbers();
        droppedTickets();
        presented();
        usec();
        Kit.finish();
    }

    private static Kit.House withAnna() {
        Kit.House h = Kit.house();
        h.agent(0, "anna:secret", 2);
        return h;
    }

    private static Kit.Node shown(Kit.House h) {
        return new Kit.Node(Kit.opened(Kit.ANNA_18, 1, new Kit.Node(h.node().down(3).parts.get(0).down(2).inner)));
    }

    private static long clockOf(Kit.House h) {
        h.request(0, 1, 0, "http/www", 0, 4, 1);
        long told = shown(h).down(0).seconds();
        Kit.due("till is of the same clock", h.node().down(4, 5).seconds(), told + 1);
        return told;
    }

    /** "An AGENT, 0 .. 3": -1 or false where there is none, also before it has said who it is. */
    private static void numbersOfAgents() {
        for (int a : new int[] {Integer.MIN_VALUE, -1, 0, 3, 4, Integer.MAX_VALUE}) {
            boolean good = a == 0 || a == 3;
            Kit.House h = Kit.house();
            Kit.due("take before", h.x.take(a), -1);
            Kit.due("met before", h.x.met(a), -1);
            Kit.due("request before", h.request(a, 0, 0, "anna", 0, 4, 0), -1);
            Kit.due("shift before", h.x.shift(a, 1), false);
            Kit.due("agent " + a, h.agent(a, "anna:secret", 2), good);
            Kit.due("take", h.x.take(a), good ? -3 : -1);
            Kit.due("met", h.x.met(a), good ? -3 : -1);
            Kit.due("request", h.request(a, 0, 0, "anna", 0, 4, 0) > 0, good);
            Kit.due("shift", h.x.shift(a, 1), good);
            Kit.due("ticket", h.x.ticket(a, 0, 0), -1);
            Kit.due("drop", h.x.drop(a, 0), false);
            Kit.due("present", h.x.present(a, 0, 0), -1);
        }
    }

    /** agent: "false for others, and for a COUNT that is none": who was there stays, with all that it has. */
    private static void refusedAgent() {
        Kit.House h = withAnna();
        Forms.give(h, 0, Forms.wwwPass());
        h.x.shift(0, 5);
        h.x.present(0, 0, 1);
        h.carry().x.serve(2);
        byte[] answer = h.out();
        h.request(0, 1, 0, "krbtgt/HOUSE", 0, 4, 36000);
        byte[] request = h.out();
        Kit.due("COUNT 0", h.agent(0, "otto:x", 0), false);
        Kit.due("COUNT 201", h.agent(0, "otto:x", 201), false);
        Kit.due("no NAME", h.agent(0, "otto", 1), false);
        Kit.due("no password", h.agent(0, "otto:" + "x".repeat(21), 1), false);
        Kit.due("AGENT 4", h.agent(4, "otto:x", 1), false);
        Kit.due("its TICKET", h.x.ticket(0, 0, 5), 18);
        Kit.due("its AP-REQ", h.tape(answer).x.met(0), 0);
        Kit.due("its SESSION", h.x.joins(0, 0), true);
        Kit.due("its request", h.tape(request).x.kdc(), 0);
        Kit.due("its request", h.carry().x.take(0), 1);
        Kit.due("its SHIFT", clockOf(h), Kit.NOW + 5);
    }

    /** "SHIFT, -100000 .. 100000 seconds (0 at first)"; one that is refused changes nothing. */
    private static void shiftAtItsEnds() {
        Kit.House h = withAnna();
        Kit.due("at first", clockOf(h), Kit.NOW);
        for (int shift : new int[] {-100000, 100000, -1, 1, 0}) {
            Kit.due("shift " + shift, h.x.shift(0, shift), true);
            for (int none : new int[] {-100001, 100001, Integer.MIN_VALUE, Integer.MAX_VALUE}) {
                Kit.due("shift " + none, h.x.shift(0, none), false);
            }
            Kit.due("its clock", clockOf(h), Kit.NOW + shift);
        }
    }

    /** "Its clock is the CLOCK and its SHIFT .., never below 0": and it follows the CLOCK. */
    private static void clockAtItsEnds() {
        int[][] cases = {{0, 0, 0}, {0, -1, 0}, {0, 1, 1}, {0, -100000, 0}, {0, 100000, 100000}, {99999, -100000, 0},
            {100000, -100000, 0}, {100001, -100000, 1}, {99999, 100000, 199999}, {2000000000, 100000, 2000100000},
            {2000000000, -100000, 1999900000}, {2000000000, 0, 2000000000}, {5, -1, 4}};
        Kit.House h = withAnna();
        for (int[] c : cases) {
            h.x.clock(c[0]);
            h.x.shift(0, c[1]);
            Kit.due("clock " + c[0] + ", shift " + c[1], clockOf(h), c[2]);
        }
        // The SHIFT stays as it is while the CLOCK goes: held at 0, it is ahead again later.
        h.x.clock(0);
        h.x.shift(0, -100000);
        Kit.due("held at 0", clockOf(h), 0);
        h.x.clock(200000);
        Kit.due("behind as before", clockOf(h), 100000);
    }

    /** request: "kind 0 .. 2, etypes 1 .. 4, a TICKET w that it has (kind 2), life, renew 0 .. 100000000". */
    private static void rangesOfRequests() {
        Kit.House h = withAnna();
        Forms.give(h, 0, Forms.wwwPass());
        int[] odd = {Integer.MIN_VALUE, -1, 0, 1, 2, 3, 4, 5, 7, 8, Integer.MAX_VALUE};
        for (int value : odd) {
            Kit.due("kind " + value, h.request(0, value, 0, "anna", 0, 4, 1) > 0, value >= 0 && value <= 2);
            Kit.due("etypes " + value, h.request(0, 0, 0, "anna", 0, value, 1) > 0, value >= 1 && value <= 4);
            Kit.due("TICKET " + value, h.request(0, 2, value, "anna", 0, 4, 1) > 0, value == 0);
            Kit.due("of no matter " + value, h.request(0, 1, value, "anna", 0, 4, 1) > 0, true);
            Kit.due("AGENT " + value, h.request(value, 0, 0, "anna", 0, 4, 1) > 0, value == 0);
            Kit.due("options " + value, h.request(0, 0, 0, "anna", value, 4, 1) > 0, true);
            Kit.same("options " + value, h.node().down(4, 0).whole, Kit.flags(value));
        }
        h = withAnna();
        for (int span : new int[] {Integer.MIN_VALUE, -1, 0, 1, 99999999, 100000000, 100000001, Integer.MAX_VALUE}) {
            boolean good = span >= 0 && span <= 100000000;
            Kit.due("life " + span, h.tape("anna").x.request(0, 0, 0, 0, 4, span, 0) > 0, good);
            Kit.due("renew " + span, h.tape("anna").x.request(0, 0, 0, 0, 4, 0, span) > 0, good);
        }
    }

    /** "till is 0 of 1970 if life is 0; rtime is there if renew is above 0." */
    private static void spansWritten() {
        for (int clock : new int[] {0, Kit.NOW, 2000000000}) {
            for (int span : new int[] {0, 1, 2, 99999999, 100000000}) {
                Kit.House h = withAnna();
                h.x.clock(clock);
                Kit.due("request", h.tape("anna").x.request(0, 0, 0, 0, 4, span, 7) > 0, true);
                Kit.same("till", h.node().down(4, 5).whole, Kit.time(span == 0 ? 0 : clock + span));
                Kit.same("rtime", h.node().down(4, 6).whole, Kit.time(clock + 7));
                Kit.due("request", h.tape("anna").x.request(0, 0, 0, 0, 4, 7, span) > 0, true);
                Kit.same("till", h.node().down(4, 5).whole, Kit.time(clock + 7));
                Kit.due("rtime", h.node().down(4, 6) != null, span > 0);
                if (span > 0) {
                    Kit.same("rtime", h.node().down(4, 6).whole, Kit.time(clock + span));
                }
            }
        }
    }

    /** "Not behind 2145916799, the last second of 2037": the farthest that the numbers allow is before it. */
    private static void farthestTill() {
        Kit.House h = withAnna();
        h.x.clock(2000000000);
        h.x.shift(0, 100000);
        h.tape("anna").x.request(0, 0, 0, 0, 4, 100000000, 100000000);
        Kit.same("till", h.node().down(4, 5).whole, Kit.time(2100100000));
        Kit.same("rtime", h.node().down(4, 6).whole, Kit.time(2100100000));
    }

    /** request: -1, and the latest request is still the one before it; the TAPE is used up. */
    private static void refusedRequest() {
        Kit.House h = withAnna();
        h.request(0, 1, 0, "krbtgt/HOUSE", 0, 4, 36000);
        byte[] first = h.out();
        Kit.due("kind", h.request(0, 3, 0, "http/www", 0, 4, 1), -1);
        Kit.due("no TICKET", h.request(0, 2, 0, "http/www", 0, 4, 1), -1);
        Kit.due("no NAME", h.request(0, 0, 0, "", 0, 4, 1), -1);
        Kit.due("etypes", h.request(0, 0, 0, "http/www", 0, 0, 1), -1);
        Kit.due("life", h.request(0, 0, 0, "http/www", 0, 4, -1), -1);
        Kit.same("the OUT stays", h.out(), first);
        Kit.due("kdc", h.carry().x.kdc(), 0);
        Kit.due("take", h.carry().x.take(0), 0);
        h.request(0, 1, 0, "krbtgt/HOUSE", 0, 4, 36000);
        Kit.same("USEC", shown(h).down(1).whole, Kit.num(1));
    }

    /** "Etypes: 1 only 17, 2 only 18, 3 17 then 18, 4 18 then 17", and what is shown ahead is of the first. */
    private static void etypesWritten() {
        byte[][] want = {Forms.etypes(17), Forms.etypes(18), Forms.etypes(17, 18), Forms.etypes(18, 17)};
        for (int types = 1; types <= 4; types++) {
            for (int kind = 0; kind <= 2; kind++) {
                Kit.House h = withAnna();
                Forms.give(h, 0, Forms.wwwPass());
                h.request(0, kind, 0, "anna", 0, types, 0);
                Kit.same("etype", h.node().down(4, 8).whole, want[types - 1]);
                if (kind == 1) {
                    Kit.Node sealed = new Kit.Node(h.node().down(3).parts.get(0).down(2).inner);
                    Kit.due("shown by", sealed.down(0).number(), types % 2 == 1 ? 17 : 18);
                }
            }
        }
    }

    /** "nonce: four COINS .. without the highest bit", "seq-number (four COINS without the highest two bits)". */
    private static void highestBits() {
        int[] high = new int[4];
        for (int k = 0; k < 40; k++) {
            Kit.House h = withAnna();
            Forms.give(h, 0, Forms.wwwPass());
            byte[] seed = Kit.ascii("seed" + k);
            h.tape(seed).x.seed();
            Kit.Coins coins = new Kit.Coins(seed);
            h.request(0, 0, 0, "anna", 0, 4, 0);
            long all = coins.number(-1) & 0xFFFFFFFFL;
            Kit.due("nonce", h.node().down(4, 7).number(), all & 0x7FFFFFFF);
            high[(int) (all >> 30)]++;
            h.x.present(0, 0, 0);
            all = coins.number(-1) & 0xFFFFFFFFL;
            Kit.Node proof = new Kit.Node(Kit.opened(Kit.KEY_A, 11, h.node().down(4)));
            Kit.due("seq-number", proof.down(7).number(), all & 0x3FFFFFFF);
            high[(int) (all >> 30)]++;
        }
        Kit.due("all four were among them", high[0] > 0 && high[1] > 0 && high[2] > 0 && high[3] > 0, true);
    }

    /** A SEED whose first four COINS are 80 00 00 00: a nonce of 0, and a seq-number of 0, are numbers like others. */
    private static final byte[] NOUGHT = Kit.unhex("730102820282b8c9");

    private static void numbersOfNought() {
        Kit.due("the COINS", new Kit.Coins(NOUGHT).number(-1) & 0xFFFFFFFFL, 0x80000000L);
        Kit.House h = withAnna();
        h.tape(NOUGHT).x.seed();
        h.request(0, 1, 0, "krbtgt/HOUSE", 0, 4, 36000);
        Kit.same("nonce", h.node().down(4, 7).whole, Kit.num(0));
        h.carry().x.kdc();
        Kit.due("take", h.carry().x.take(0), 0);
        h = withAnna();
        Forms.give(h, 0, Forms.wwwPass());
        h.tape(NOUGHT).x.seed();
        h.x.present(0, 0, 1);
        Kit.Node proof = new Kit.Node(Kit.opened(Kit.KEY_A, 11, h.node().down(4)));
        Kit.same("the AGENT's number", proof.down(7).whole, Kit.num(0));
        byte[] visit = h.out();
        h.tape(NOUGHT).x.seed();
        Kit.due("serve", h.tape(visit).x.serve(2), 0);
        Kit.Node answer = new Kit.Node(Kit.opened(Kit.KEY_A, 12, h.node().down(2)));
        Kit.same("the service's number", answer.down(3).whole, Kit.num(0));
        Kit.due("met", h.carry().x.met(0), 0);
        Kit.due("joins", h.x.joins(0, 0), true);
        for (int side = 0; side < 2; side++) {
            h.tape("hello").x.send(0, side);
            Kit.due("from side " + side, h.carry().x.receive(0, 1 - side), 5);
        }
    }

    private static Forms.Reply reply(Kit.House h) {
        Forms.Reply reply = new Forms.Reply();
        reply.nonce = h.node().down(4, 7).whole;
        return reply;
    }

    private interface Mend {
        void one(Forms.Reply reply);
    }

    /** TAKEN: all is wrong, and one thing less at each step: the first that is so is told. */
    private static void takenInOrder() {
        Mend[] steps = {r -> r.type = 11, r -> r.sealing = Kit.ANNA_18, r -> r.usage = 3, r -> r.part = 25, r -> { },
            r -> r.crealm = Kit.text("HOUSE"), r -> r.cname = Kit.ANNA_NAME, r -> r.srealm = Kit.text("HOUSE"),
            r -> r.sname = Kit.TGS_NAME, r -> r.ticket = ticketFor(Kit.text("OTHER"), Kit.TGS_NAME),
            r -> r.ticket = ticketFor(Kit.text("HOUSE"), Kit.TGS_NAME), r -> r.key = Kit.key(Kit.KEY_A),
            r -> r.starttime = Kit.time(Kit.NOW + 300)};
        int[] codes = {-40, -14, -31, -60, -41, -41, -41, -41, -41, -41, -41, -14, -37, -2};
        for (int done = 0; done < codes.length; done++) {
            Kit.House h = withAnna();
            fill(h, 0);
            h.request(0, 0, 0, "krbtgt/HOUSE", 0, 2, 36000);
            byte[] nonce = h.node().down(4, 7).whole;
            Forms.Reply reply = allWrong();
            for (int k = 0; k < done; k++) {
                steps[k].one(reply);
                reply.nonce = k >= 4 ? nonce : reply.nonce;
            }
            Kit.due("step " + done, h.tape(reply.der()).x.take(0), codes[done]);
            Kit.due("once", h.tape(reply.der()).x.take(0), -3);
            h.request(0, 0, 0, "krbtgt/HOUSE", 0, 2, 36000);
            Kit.due("BROKEN before all that", h.tape(Kit.cat(reply.der(), Kit.bytes(0))).x.take(0), -60);
        }
    }

    private static byte[] ticketFor(byte[] realm, byte[] sname) {
        Forms.Pass pass = new Forms.Pass();
        pass.realm = realm;
        pass.sname = sname;
        return pass.der();
    }

    private static Forms.Reply allWrong() {
        Forms.Reply reply = new Forms.Reply();
        reply.type = 13;
        reply.sealing = Kit.ANNA_17;
        reply.usage = 9;
        reply.part = 24;
        reply.nonce = Kit.num(1);
        reply.crealm = Kit.text("OTHER");
        reply.cname = Kit.WWW_NAME;
        reply.srealm = Kit.text("OTHER");
        reply.sname = Kit.WWW_NAME;
        reply.ticket = ticketFor(Kit.text("OTHER"), Kit.WWW_NAME);
        reply.key = Kit.pair(17, new byte[32]);
        reply.starttime = Kit.time(Kit.NOW + 301);
        return reply;
    }

    /** All eight TICKETS are taken. */
    private static void fill(Kit.House h, int a) {
        Forms.give(h, a, Forms.wwwPass());
        h.x.present(a, 0, 0);
        h.carry().x.serve(2);
        h.x.joins(0, a);
        h.x.hand(0, 0);
        for (int w = 1; w < 8; w++) {
            Kit.due("filled", h.carry().x.handed(0, a), w);
        }
    }

    private static void takenOfTgsInOrder() {
        Mend[] steps = {r -> r.type = 13, r -> { }, r -> r.usage = 9, r -> r.part = 26, r -> { },
            r -> r.crealm = Kit.text("HOUSE"), r -> r.cname = Kit.ANNA_NAME, r -> r.srealm = Kit.text("HOUSE"),
            r -> r.sname = Kit.TGS_NAME, r -> r.ticket = ticketFor(Kit.text("OTHER"), Kit.TGS_NAME),
            r -> r.ticket = ticketFor(Kit.text("HOUSE"), Kit.TGS_NAME), r -> r.key = Kit.key(Kit.KEY_A),
            r -> r.starttime = Kit.time(Kit.NOW - 300)};
        int[] codes = {-40, -14, -31, -60, -41, -41, -41, -41, -41, -41, -41, -14, -37, -2};
        for (int done = 0; done < codes.length; done++) {
            Kit.House h = withAnna();
            fill(h, 0);
            h.request(0, 2, 0, "krbtgt/HOUSE", 0, 2, 36000);
            byte[] nonce = h.node().down(4, 7).whole;
            Kit.Node proof = new Kit.Node(h.node().down(3).parts.get(0).down(2).inner);
            byte[] subkey = new Kit.Node(Kit.opened(Kit.KEY_A, 7, proof.down(4))).down(6, 1).inner;
            Forms.Reply reply = allWrong();
            reply.type = 11;
            reply.usage = 8;
            reply.part = 25;
            reply.sealing = Kit.KEY_B;
            for (int k = 0; k < done; k++) {
                steps[k].one(reply);
                reply.sealing = k >= 1 ? subkey : reply.sealing;
                reply.nonce = k >= 4 ? nonce : reply.nonce;
            }
            Kit.due("TGS, step " + done, h.tape(reply.der()).x.take(0), codes[done]);
            Kit.due("once", h.tape(reply.der()).x.take(0), -3);
        }
    }

    /** TAKEN: "once; without one -3"; a further request is another one. */
    private static void takenOnce() {
        Kit.House h = withAnna();
        Kit.due("without one", h.x.take(0), -3);
        h.request(0, 1, 0, "krbtgt/HOUSE", 0, 4, 36000);
        h.carry().x.kdc();
        Kit.due("taken", h.carry().x.take(0), 0);
        Kit.due("again", h.carry().x.take(0), -3);
        Kit.due("one TICKET came of it", h.x.ticket(0, 1, 5), -1);
        h.request(0, 1, 0, "krbtgt/HOUSE", 0, 4, 36000);
        Kit.due("not for the reply before", h.x.take(0), -60);
        h.request(0, 0, 0, "krbtgt/HOUSE", 0, 4, 36000);
        h.carry().x.kdc();
        Kit.due("an error", h.carry().x.take(0), -25);
        Kit.due("again", h.carry().x.take(0), -3);
        // Each AGENT has its own.
        h.agent(1, "anna:secret", 2);
        h.request(0, 1, 0, "krbtgt/HOUSE", 0, 4, 36000);
        byte[] mine = h.out();
        h.request(1, 1, 0, "krbtgt/HOUSE", 0, 4, 36000);
        h.tape(mine).x.kdc();
        byte[] reply = h.out();
        Kit.due("another's reply", h.tape(reply).x.take(1), -41);
        Kit.due("its own", h.tape(reply).x.take(0), 1);
    }

    /** What was refused is no TICKET. */
    private static void refusedTake() {
        Kit.House h = withAnna();
        h.request(0, 0, 0, "krbtgt/HOUSE", 0, 4, 36000);
        Forms.Reply reply = reply(h);
        reply.starttime = Kit.time(Kit.NOW + 301);
        Kit.due("refused", h.tape(reply.der()).x.take(0), -37);
        for (int w = 0; w < 8; w++) {
            Kit.due("no TICKET " + w, h.x.ticket(0, w, 5), -1);
            Kit.due("nothing to drop", h.x.drop(0, w), false);
        }
    }

    /** "crealm, cname (the parts) or srealm, sname (parts) not those asked for, or not those of the ticket: -41." */
    private static void namesTaken() {
        String[][] names = {{}, {"krbtgt"}, {"krbtgt", "HOUSF"}, {"krbtgu", "HOUSE"}, {"krbtgt", "HOUSE", ""}, {"krbtgtHOUSE"},
            {"krbtgt", "HOUSEX"}, {"krbtg", "tHOUSE"}, {"krbtgt/HOUSE"}};
        for (String[] name : names) {
            Kit.House h = withAnna();
            h.request(0, 0, 0, "krbtgt/HOUSE", 0, 4, 36000);
            Forms.Reply reply = reply(h);
            reply.sname = Kit.name(2, name);
            Kit.due("sname", h.tape(reply.der()).x.take(0), -41);
            h.request(0, 0, 0, "krbtgt/HOUSE", 0, 4, 36000);
            reply = reply(h);
            reply.ticket = ticketFor(Kit.text("HOUSE"), Kit.name(2, name));
            Kit.due("the ticket's sname", h.tape(reply.der()).x.take(0), -41);
        }
        for (String name : new String[] {"", "ann", "annaa", "otto", "bnna", "annb", "a".repeat(100)}) {
            Kit.House h = withAnna();
            h.request(0, 0, 0, "krbtgt/HOUSE", 0, 4, 36000);
            Forms.Reply reply = reply(h);
            reply.cname = Kit.name(1, name);
            Kit.due("cname", h.tape(reply.der()).x.take(0), -41);
        }
        // Of TGS the client is that of the TICKET, not the AGENT.
        Kit.House h = withAnna();
        Forms.give(h, 0, Forms.wwwPass());
        h.agent(1, "otto:x", 1);
        h.x.present(0, 0, 0);
        h.carry().x.serve(2);
        h.x.joins(0, 0);
        h.x.hand(0, 0);
        h.carry().x.handed(0, 1);
        for (int k = 0; k < 2; k++) {
            h.request(1, 2, 0, "krbtgt/HOUSE", 0, 4, 36000);
            Kit.Node proof = new Kit.Node(h.node().down(3).parts.get(0).down(2).inner);
            Forms.Reply reply = reply(h);
            reply.type = 13;
            reply.part = 26;
            reply.usage = 9;
            reply.sealing = new Kit.Node(Kit.opened(Kit.KEY_A, 7, proof.down(4))).down(6, 1).inner;
            reply.cname = k == 0 ? Kit.name(1, "otto") : Kit.ANNA_NAME;
            Kit.due("TGS for another's TICKET", h.tape(reply.der()).x.take(1), k == 0 ? -41 : 1);
        }
    }

    /** "nonce another one: -41": of UInt32, held against all of its bits. */
    private static void nonceTaken() {
        for (int bit = 0; bit < 33; bit++) {
            Kit.House h = withAnna();
            h.request(0, 0, 0, "krbtgt/HOUSE", 0, 4, 36000);
            Forms.Reply reply = reply(h);
            long nonce = new Kit.Node(reply.nonce).number() ^ (bit == 32 ? 0 : 1L << bit);
            reply.nonce = Kit.num(nonce);
            Kit.due("nonce, bit " + bit, h.tape(reply.der()).x.take(0), bit == 32 ? 0 : -41);
        }
    }

    /** "starttime (or authtime) more than 300 seconds off its clock, but of a renewed one: -37." */
    private static void startAtItsEnds() {
        for (int shift : new int[] {-100000, -1, 0, 1, 100000}) {
            for (int off : new int[] {-301, -300, 0, 300, 301}) {
                for (int missing = 0; missing < 2; missing++) {
                    Kit.House h = withAnna();
                    h.x.shift(0, shift);
                    h.request(0, 0, 0, "krbtgt/HOUSE", RENEW, 4, 36000);
                    Forms.Reply reply = reply(h);
                    reply.starttime = missing == 0 ? Kit.time(Kit.NOW + shift + off) : null;
                    reply.authtime = missing == 0 ? Kit.time(5) : Kit.time(Kit.NOW + shift + off);
                    int want = Math.abs(off) > 300 ? -37 : 0;
                    Kit.due("off " + off + " with shift " + shift, h.tape(reply.der()).x.take(0), want);
                }
            }
        }
        for (int clock : new int[] {0, 300, 301}) {
            Kit.House h = withAnna();
            h.x.clock(clock);
            h.request(0, 0, 0, "krbtgt/HOUSE", 0, 4, 36000);
            Forms.Reply reply = reply(h);
            reply.starttime = Kit.time(0);
            Kit.due("0 of 1970 at " + clock, h.tape(reply.der()).x.take(0), clock > 300 ? -37 : 0);
            Kit.due("is a starttime", h.x.ticket(0, 0, 2), clock > 300 ? -1 : 0);
        }
    }

    /** "KRB-ERROR: - its error-code (below 1, or above 1000: -60)", to whatever was asked. */
    private static void codesOfErrors() {
        for (int code : new int[] {Integer.MIN_VALUE, -1000, -1, 0, 1, 2, 127, 128, 999, 1000, 1001, 65537, Integer.MAX_VALUE}) {
            for (int kind = 0; kind <= 2; kind++) {
                Kit.House h = withAnna();
                Forms.give(h, 0, Forms.wwwPass());
                h.request(0, kind, 0, "anna", 0, 4, 0);
                int want = code >= 1 && code <= 1000 ? -code : -60;
                byte[] error = Kit.error(Kit.NOW, code, null, null, Kit.TGS_NAME, null);
                Kit.due("error " + code, h.tape(error).x.take(0), want);
                Kit.due("once", h.tape(error).x.take(0), -3);
            }
        }
    }

    /** "no TICKET is free: -2. Otherwise the TICKET's number, the lowest that was free." */
    private static void eightTickets() {
        for (int gone = -1; gone < 8; gone++) {
            Kit.House h = withAnna();
            fill(h, 0);
            if (gone >= 0) {
                Kit.due("drop", h.x.drop(0, gone), true);
                Kit.due("and the last, too", h.x.drop(0, 7), gone != 7);
            }
            h.request(0, 1, 0, "krbtgt/HOUSE", 0, 1, 36000);
            h.carry().x.kdc();
            Kit.due("take", h.carry().x.take(0), gone < 0 ? -2 : gone);
            for (int w = 0; w < 7; w++) {
                Kit.due("TICKET " + w, h.x.ticket(0, w, 5), w == gone ? 17 : 18);
            }
        }
    }

    /** ticket: "-1 without one, or for another what". */
    private static void ticketsNumbers() {
        Kit.House h = withAnna();
        fill(h, 0);
        for (int odd : new int[] {Integer.MIN_VALUE, -1, 8, 9, Integer.MAX_VALUE}) {
            Kit.due("TICKET " + odd, h.x.ticket(0, odd, 5), -1);
            Kit.due("drop " + odd, h.x.drop(0, odd), false);
            Kit.due("present " + odd, h.x.present(0, odd, 0), -1);
            Kit.due("hand " + odd, h.x.hand(0, odd), -1);
        }
        for (int what : new int[] {Integer.MIN_VALUE, -1, 6, 7, Integer.MAX_VALUE}) {
            Kit.due("what " + what, h.x.ticket(0, 0, what), -1);
        }
        for (int w = 0; w < 8; w++) {
            Kit.due("TICKET " + w, h.x.ticket(0, w, 3), Kit.NOW + 36000);
            Kit.due("present " + w, h.x.present(0, w, 0) > 0, true);
        }
        Kit.due("no renew-till", h.x.ticket(0, 0, 4), -1);
    }

    /** drop: "A TICKET is thrown away: true; false when there is none": nothing can be done with it then. */
    private static void droppedTickets() {
        Kit.House h = withAnna();
        fill(h, 0);
        Kit.due("drop", h.x.drop(0, 3), true);
        Kit.due("again", h.x.drop(0, 3), false);
        Kit.due("ticket", h.x.ticket(0, 3, 5), -1);
        Kit.due("present", h.x.present(0, 3, 0), -1);
        Kit.due("hand", h.x.hand(0, 3), -1);
        Kit.due("request", h.request(0, 2, 3, "anna", 0, 4, 0), -1);
        for (int w : new int[] {0, 2, 4, 7}) {
            Kit.due("the others stay", h.x.ticket(0, w, 5), 18);
        }
        h.agent(1, "otto:x", 1);
        Kit.due("another AGENT has none", h.x.drop(1, 0), false);
        Kit.due("the first keeps its own", h.x.ticket(0, 0, 5), 18);
    }

    /** present: "how: 1 mutual, 2 a subkey, added; -1 without one, or for another how". */
    private static void presented() {
        for (int how : new int[] {Integer.MIN_VALUE, -1, 0, 1, 2, 3, 4, 5, Integer.MAX_VALUE}) {
            Kit.House h = withAnna();
            Forms.give(h, 0, Forms.wwwPass());
            int size = h.x.present(0, 0, how);
            boolean good = how >= 0 && how <= 3;
            Kit.due("how " + how, size > 0, good);
            if (good) {
                Kit.Node proof = new Kit.Node(Kit.opened(Kit.KEY_A, 11, h.node().down(4)));
                Kit.same("mutual-required", h.node().down(2).whole, Kit.flags(how % 2 == 1 ? 0x20000000 : 0));
                Kit.due("a subkey", proof.down(6) != null, how >= 2);
                Kit.due("no cksum", proof.down(3) == null, true);
                Kit.due("met", h.x.met(0), how % 2 == 1 ? -60 : -3);
            }
        }
        // One that is refused leaves the latest AP-REQ as it was.
        Kit.House h = withAnna();
        Forms.give(h, 0, Forms.wwwPass());
        h.x.present(0, 0, 1);
        h.carry().x.serve(2);
        Kit.due("refused", h.x.present(0, 0, 4), -1);
        Kit.due("refused", h.x.present(0, 1, 0), -1);
        Kit.due("met", h.carry().x.met(0), 0);
        Kit.due("joins", h.x.joins(0, 0), true);
    }

    /** "USEC is how many messages with an authenticator, or shown ahead, it has made before this one." */
    private static void usec() {
        Kit.House h = withAnna();
        Forms.give(h, 0, Forms.wwwPass());
        h.agent(1, "anna:secret", 2);
        Forms.give(h, 1, Forms.wwwPass());
        int[] made = new int[2];
        for (int k = 0; k < 20; k++) {
            int a = k % 3 == 0 ? 1 : 0;
            h.request(a, 0, 0, "anna", 0, 4, 0);
            h.x.present(a, 0, 4);
            h.request(a, 2, 1, "anna", 0, 4, 0);
            if (k % 2 == 0) {
                h.x.present(a, 0, k % 4);
                Kit.Node proof = new Kit.Node(Kit.opened(Kit.KEY_A, 11, h.node().down(4)));
                Kit.same("cusec", proof.down(4).whole, Kit.num(made[a]));
            } else if (k % 4 == 1) {
                h.request(a, 1, 0, "anna", 0, 4, 0);
                Kit.same("pausec", shown(h).down(1).whole, Kit.num(made[a]));
            } else {
                h.request(a, 2, 0, "anna", 0, 4, 0);
                Kit.Node ap = new Kit.Node(h.node().down(3).parts.get(0).down(2).inner);
                Kit.Node proof = new Kit.Node(Kit.opened(Kit.KEY_A, 7, ap.down(4)));
                Kit.same("cusec", proof.down(4).whole, Kit.num(made[a]));
            }
            made[a]++;
        }
    }
}
