/** Promises 1 to 7: a new object, feed, end, carry, out, clock, seed; and the ciphers of the tests themselves. */
public final class BytesTest {
    public static void main(String[] args) {
        kitIsSound();
        newObject();
        feedAndEnd();
        carryAndOut();
        clock();
        seed();
        Kit.finish();
    }

    /** RFC 3961 A.1 and RFC 3962 B: the kit must be right before the class is held against it. */
    private static void kitIsSound() {
        Kit.same("64-fold", Kit.fold(Kit.ascii("012345"), 8), Kit.unhex("be072631276b1955"));
        Kit.same("56-fold", Kit.fold(Kit.ascii("password"), 7), Kit.unhex("78a07b6caf85fa"));
        Kit.same("128-fold", Kit.fold(Kit.ascii("kerberos"), 16), Kit.unhex("6b65726265726f737b9b5b2b93132b93"));
        Kit.same("168-fold", Kit.fold(Kit.ascii("kerberos"), 21),
            Kit.unhex("8372c236344e5f1550cd0747e15d62ca7a5a3bcea4"));
        Kit.same("key of one round", Kit.stringToKey(17, "password", "ATHENA.MIT.EDUraeburn", 1),
            Kit.unhex("42263c6e89f4fc28b8df68ee09799f15"));
        Kit.same("key of one round", Kit.stringToKey(18, "password", "ATHENA.MIT.EDUraeburn", 1),
            Kit.unhex("fe697b52bc0d3ce14432ba036a92e65bbb52280990a2fa27883998d72af30161"));
        Kit.same("key of two rounds", Kit.stringToKey(18, "password", "ATHENA.MIT.EDUraeburn", 2),
            Kit.unhex("a2e16d16b36069c135d5e9d2e25f896102685618b95914b467c67622225824ff"));
        byte[] key = Kit.unhex("636869636b656e207465726979616b69");
        Kit.same("CTS of 17", Kit.ctsEncrypt(key, Kit.ascii("I would like the ")),
            Kit.unhex("c6353568f2bf8cb4d8a580362da7ff7f97"));
        Kit.same("CTS of 32", Kit.ctsEncrypt(key, Kit.ascii("I would like the General Gau's C")),
            Kit.unhex("39312523a78662d5be7fcbcc98ebf5a897687268d6ecccc0c07b25e25ecfe584"));
        Kit.same("CTS back", Kit.ctsDecrypt(key, Kit.unhex("c6353568f2bf8cb4d8a580362da7ff7f97")),
            Kit.ascii("I would like the "));
    }

    private static void newObject() {
        Kit.House h = new Kit.House();
        Kit.due("out(-1) of a new one", h.x.out(-1), 0);
        Kit.due("out(0) of a new one", h.x.out(0), -1);
        Kit.due("the TAPE of a new one", h.x.end(1), false);
        Kit.due("policy of 0", h.x.policy(0, 0, 600), true);
        Kit.due("policy of 1", h.x.policy(1, 0, 600), false);
        for (int a = -1; a < 5; a++) {
            Kit.due("shift", h.x.shift(a, 0), false);
            Kit.due("take", h.x.take(a), -1);
            Kit.due("met", h.x.met(a), -1);
            Kit.due("ticket", h.x.ticket(a, 0, 0), -1);
            Kit.due("drop", h.x.drop(a, 0), false);
            Kit.due("present", h.x.present(a, 0, 0), -1);
            Kit.due("request", h.tape("anna").x.request(a, 0, 0, 0, 4, 1, 1), -1);
        }
        for (int n = -1; n < 9; n++) {
            Kit.due("ends", h.x.ends(n), false);
            Kit.due("joins", h.x.joins(n, 0), false);
            for (int side = -1; side < 3; side++) {
                Kit.due("send", h.x.send(n, side), -1);
                Kit.due("receive", h.x.receive(n, side), -1);
                Kit.due("assure", h.x.assure(n, side), -1);
                Kit.due("assured", h.x.assured(n, side), -1);
            }
            Kit.due("hand", h.x.hand(n, 0), -1);
            Kit.due("handed", h.x.handed(n, 0), -1);
        }
        Kit.due("out(-1) behind all that", h.x.out(-1), 0);
        Kit.due("principals are numbered from 1", h.principal("anna:secret", 2), 1);
    }

    private static void feedAndEnd() {
        Kit.House h = new Kit.House();
        for (int i = 0; i < 200; i++) {
            Kit.due("feed " + i, h.x.feed(i, i, i, i, i), true);
        }
        Kit.due("feed beyond 4000", h.x.feed(0, 0, 0, 0, 0), false);
        Kit.due("end(4001)", h.x.end(4001), false);
        Kit.due("end(-1)", h.x.end(-1), false);
        Kit.due("end(3981)", h.x.end(3981), true);
        Kit.due("feed beyond 4000 from 3981", h.x.feed(0, 0, 0, 0, 0), false);
        Kit.due("end(3982) of 3981", h.x.end(3982), false);
        Kit.due("end(3980)", h.x.end(3980), true);
        Kit.due("feed to 4000", h.x.feed(0, 0, 0, 0, 0), true);
        Kit.due("end(4000)", h.x.end(4000), true);
        Kit.due("end(0)", h.x.end(0), true);
        Kit.due("end(1) of none", h.x.end(1), false);
        // The highest byte of each number comes first: seen by what a message carries.
        byte[] all = Kit.unhex("0102030480818283ff00fe017f0000019a9b9c9d");
        SessionPair s = new SessionPair();
        s.h.x.end(0);
        s.h.x.feed(0x01020304, 0x80818283, 0xff00fe01, 0x7f000001, 0x9a9b9c9d);
        s.h.x.send(0, 1);
        s.h.carry().x.receive(0, 0);
        Kit.same("feed's order", s.h.out(), all);
        s.h.tape(all).x.end(7);
        s.h.x.send(0, 1);
        s.h.carry().x.receive(0, 0);
        Kit.same("end's cut", s.h.out(), java.util.Arrays.copyOf(all, 7));
    }

    /** A session whose sides have both joined, to see bytes by. */
    private static final class SessionPair {
        final Kit.House h = Kit.house();

        SessionPair() {
            h.agent(0, "anna:secret", 2);
            h.fetch(0, 1, 0, "krbtgt/HOUSE", 0, 4, 36000);
            h.fetch(0, 2, 0, "http/www", 0, 4, 36000);
            h.x.present(0, 1, 3);
            h.carry().x.serve(2);
            h.carry().x.met(0);
            h.x.joins(0, 0);
        }
    }

    private static void carryAndOut() {
        Kit.House h = Kit.house();
        h.agent(0, "anna:secret", 2);
        int size = h.request(0, 0, 0, "krbtgt/HOUSE", 0, 4, 36000);
        byte[] request = h.out();
        Kit.due("out(-1)", h.x.out(-1), size);
        Kit.due("out(0)", h.x.out(0), 106);
        Kit.due("out(size)", h.x.out(size), -1);
        Kit.due("out(-2)", h.x.out(-2), -1);
        Kit.due("out(least)", h.x.out(Integer.MIN_VALUE), -1);
        Kit.due("out(most)", h.x.out(Integer.MAX_VALUE), -1);
        Kit.due("carry", h.x.carry(-1, 255), size);
        Kit.due("carry once more takes the place of it", h.x.carry(size, 255), size);
        Kit.due("the TAPE has it", h.x.end(size + 1), false);
        Kit.due("the OUT stays", h.x.out(-1), size);
        Kit.due("kdc of it as it is", h.x.kdc(), 25);
        // With a byte changed the centre reads something else.
        Kit.due("a changed pvno", h.kdc(changed(request, 8, 4)), 3);
        h.x.end(0);
        h.tape(request);
        h.request(0, 0, 0, "krbtgt/HOUSE", 0, 4, 36000);
        Kit.due("mask has eight bits", h.x.carry(0, 0x102), size);
        Kit.due("first byte 104", h.x.kdc(), 60);
        h.request(0, 0, 0, "krbtgt/HOUSE", 0, 4, 36000);
        Kit.due("mask 256 is none", h.x.carry(0, 256), size);
        Kit.due("kdc of it as it is", h.x.kdc(), 25);
        // An OUT of over 4000 bytes: only its first 4000 are carried.
        Forms.Body body = Forms.asBody();
        body.addresses = Kit.seq(Kit.pair(2, new byte[3500]));
        Kit.due("a long reply", h.kdc(Forms.asReq(body, Forms.shownAnna())), 0);
        Kit.due("is over 4000", h.x.out(-1) > 4000, true);
        Kit.due("out beyond 4000", h.x.out(4001) >= 0, true);
        Kit.due("carry of it", h.x.carry(4000, 255), 4000);
        Kit.due("the TAPE has 4000", h.x.end(4000), true);
    }

    private static byte[] changed(byte[] row, int at, int value) {
        byte[] other = row.clone();
        other[at] = (byte) value;
        return other;
    }

    private static void clock() {
        Kit.House h = Kit.house();
        Kit.due("clock(-1)", h.x.clock(-1), false);
        Kit.due("clock(2000000001)", h.x.clock(2000000001), false);
        Kit.due("clock(least)", h.x.clock(Integer.MIN_VALUE), false);
        h.kdc(Kit.NIL);
        Kit.same("the CLOCK at first", h.out(), Kit.error(Kit.NOW, 60, null, null, Kit.TGS_NAME, null));
        int[] times = {0, 1, 59, 86399, 86400, 68255999, 68256000, 951782400, 951868799, 951868800, 1077926400,
            1709251199, 1735689599, 1735689600, 1999999999, 2000000000};
        for (int t : times) {
            Kit.due("clock(" + t + ")", h.x.clock(t), true);
            h.kdc(Kit.NIL);
            Kit.same("stime of " + t, h.out(), Kit.error(t, 60, null, null, Kit.TGS_NAME, null));
        }
        // Every month's first and last second, in a leap year and behind it.
        for (int month = 0; month < 24; month++) {
            int t = (int) java.time.LocalDate.of(2020, 1, 1).plusMonths(month).toEpochDay() * 86400;
            for (int at = t - 1; at <= t; at++) {
                h.x.clock(at);
                h.x.kdc();
                Kit.same("stime of " + at, h.out(), Kit.error(at, 60, null, null, Kit.TGS_NAME, null));
            }
        }
    }

    private static void seed() {
        Kit.House h = new Kit.House();
        h.principal("anna:secret", 2);
        h.agent(0, "anna:secret", 2);
        Kit.Coins coins = new Kit.Coins(Kit.NIL);
        for (int i = 0; i < 7; i++) {
            h.request(0, 0, 0, "anna", 0, 4, 0);
            Kit.due("nonce " + i + " of the empty SEED", h.node().down(4, 7).number(), coins.number(0x7FFFFFFF));
        }
        byte[][] seeds = {Kit.NIL, Kit.ascii("coins"), new byte[64], Kit.ascii("x".repeat(63)), Kit.ascii("y".repeat(64))};
        for (byte[] seed : seeds) {
            Kit.due("seed()", h.tape(seed).x.seed(), true);
            Kit.due("seed() takes the TAPE", h.x.end(1), false);
            coins = new Kit.Coins(seed);
            for (int i = 0; i < 12; i++) {
                h.request(0, 0, 0, "anna", 0, 4, 0);
                Kit.due("nonce " + i + " of a SEED", h.node().down(4, 7).number(), coins.number(0x7FFFFFFF));
            }
        }
        Kit.due("seed() of 65", h.tape(new byte[65]).x.seed(), false);
        Kit.due("its TAPE stays", h.hasTape(65), true);
        h.x.end(0);
        h.request(0, 0, 0, "anna", 0, 4, 0);
        Kit.due("and the row goes on", h.node().down(4, 7).number(), coins.number(0x7FFFFFFF));
    }
}
