import java.util.Arrays;

/** Terms, DER: what is read is of its type, whole, with nothing behind; else it is BROKEN (60 of the centre). */
public final class DerTest {
    private static Kit.House h = Kit.house();

    public static void main(String[] args) {
        lengths();
        numbers();
        texts();
        times();
        bits();
        rows();
        fields();
        everyCut();
        Kit.finish();
    }

    private static void due(String what, byte[] request, boolean read) {
        h = Kit.house();
        h.x.policy(1, 2, 14);
        h.tape(request);
        int code = h.x.kdc();
        Kit.due(what + (read ? " is read" : " is BROKEN"), code != 60, read);
    }

    private static void due(String what, Forms.Body body, boolean read) {
        due(what, Forms.asReq(body), read);
    }

    private static void lengths() {
        byte[] body = Forms.asBody().der();
        byte[] inner = Kit.cat(Kit.f(1, Kit.num(5)), Kit.f(2, Kit.num(10)), Kit.f(4, body));
        byte[] sequence = Kit.seq(inner);
        due("as it should be", Kit.app(10, sequence), true);
        int n = sequence.length;
        Kit.due("the length is short", n < 128, true);
        due("a length of one byte too many", Kit.cat(Kit.bytes(106, 0x81, n), sequence), false);
        due("a length of two bytes too many", Kit.cat(Kit.bytes(106, 0x82, 0, n), sequence), false);
        due("a length without end", Kit.cat(Kit.bytes(106, 0x80), sequence, Kit.bytes(0, 0)), false);
        due("a length of five bytes", Kit.cat(Kit.bytes(106, 0x84, 0, 0, 0, n), sequence), false);
        due("a length 0xFF", Kit.cat(Kit.bytes(106, 0xFF), sequence), false);
        due("a length beyond", Kit.cat(Kit.bytes(106, n + 1), sequence), false);
        due("a length below", Kit.cat(Kit.bytes(106, n - 1), sequence), false);
        due("a length whose bytes are cut", Kit.bytes(106, 0x82, 1), false);
        due("no length", Kit.bytes(106), false);
        due("nothing inside", Kit.bytes(106, 0), false);
        due("two SEQUENCEs", Kit.app(10, sequence, sequence), false);
        due("a SET", Kit.app(10, Kit.tlv(0x31, inner)), false);
        Forms.Body longer = Forms.asBody();
        int[] sizes = {60, 127, 128, 129, 200, 255, 256, 257, 300, 1000, 3700};
        for (int size : sizes) {
            longer.addresses = Kit.seq(Kit.pair(2, new byte[size]));
            due("an address of " + size, longer, true);
        }
        longer.addresses = Kit.cat(Kit.bytes(0x30, 0x82, 0, 200), new byte[200]);
        due("a length of two bytes for 200", longer, false);
    }

    private static void numbers() {
        Forms.Body body = Forms.asBody();
        String[] good = {"020100", "02017f", "02020080", "0204" + "7fffffff", "0205" + "0080000000", "0205" + "00ffffffff"};
        String[] bad = {"0200", "02020000", "0202007f", "0201ff", "020180", "0205" + "0100000000", "0205007fffffff",
            "0206" + "000000000001", "0a0101", "0301" + "00", "0205" + "ffffffffff", "020200"};
        for (String value : good) {
            body.nonce = Kit.unhex(value);
            due("nonce " + value, body, true);
        }
        for (String value : bad) {
            body.nonce = Kit.unhex(value);
            due("nonce " + value, body, false);
        }
        body = Forms.asBody();
        String[] goodInts = {"0204" + "80000000", "0201ff", "02047fffffff", "0202ff7f", "020100"};
        String[] badInts = {"02050080000000", "0205ff7fffffff", "0202ff80", "0202ffff", "020500ffffffff", "0200"};
        for (String value : goodInts) {
            body.etype = Kit.seq(Kit.num(18), Kit.unhex(value));
            due("etype " + value, body, true);
        }
        for (String value : badInts) {
            body.etype = Kit.seq(Kit.num(18), Kit.unhex(value));
            due("etype " + value, body, false);
        }
        // Microseconds are seen by PA-ENC-TS-ENC: 24 when it is none.
        long[] micros = {0, 999999, 1000000, -1};
        for (long micro : micros) {
            byte[] text = Kit.seq(Kit.f(0, Kit.time(Kit.NOW)), Kit.f(1, Kit.num(micro)));
            int code = Kit.house().kdc(Forms.asReq(Forms.asBody(), Kit.pa(2, Kit.sealed(Kit.ANNA_18, 1, Kit.NONE, text))));
            Kit.due("pausec " + micro, code, micro >= 0 && micro <= 999999 ? 0 : 24);
        }
    }

    private static void texts() {
        Forms.Body body = Forms.asBody();
        for (int sign = 0; sign < 256; sign++) {
            body.cname = Kit.name(1, "a" + (char) sign);
            due("sign " + sign, body, sign >= 32 && sign <= 126);
        }
        body.cname = Kit.name(1, "");
        due("no sign", body, true);
        body.cname = Kit.seq(Kit.f(0, Kit.num(1)), Kit.f(1, Kit.seq(Kit.tlv(0x16, Kit.ascii("anna")))));
        due("an IA5String", body, false);
        body = Forms.asBody();
        body.realm = Kit.tlv(0x0C, Kit.ascii("HOUSE"));
        due("a UTF8String", body, false);
    }

    private static byte[] stamp(String text) {
        return Kit.tlv(0x18, Kit.ascii(text));
    }

    private static void times() {
        Forms.Body body = Forms.asBody();
        String[] good = {"19700101000000Z", "20371231235959Z", "20000229120000Z", "20040229000000Z", "20360229235959Z",
            "20010228000000Z", "20010430000000Z", "20011231000000Z", "20010131000000Z"};
        String[] bad = {"19691231235959Z", "20380101000000Z", "20010229000000Z", "20020229000000Z", "20010431000000Z",
            "20010631000000Z", "20010931000000Z", "20011131000000Z", "20010132000000Z", "20010100000000Z",
            "20011301000000Z", "20010001000000Z", "20010101240000Z", "20010101006000Z", "20010101000060Z",
            "20010101000000", "200101010000Z", "20010101000000.5Z", "20010101000000z", "2001010100000 Z",
            "20010101000000+0000", "0010101000000ZZ", "-2010101000000Z", "20010101000000ZZ", "", "00000101000000Z",
            "20000230000000Z", "2001:101000000Z", "2001/101000000Z"};
        for (String text : good) {
            body.till = stamp(text);
            due("till " + text, body, true);
        }
        for (String text : bad) {
            body.till = stamp(text);
            due("till " + text, body, false);
        }
        body.till = Kit.tlv(0x17, Kit.ascii("20010101000000Z"));
        due("a UTCTime", body, false);
        // A time's value is right, seen by the endtime that a till becomes.
        int[] odd = {0, 58 * 86400, 59 * 86400, 730 * 86400 + 59 * 86400, 951782400, 951868800, 978307199, 1230767999,
            1235865599, 1330473600, 1999999990};
        int[] days = Arrays.copyOf(odd, odd.length + 60);
        for (int k = 0; k < 60; k++) {
            days[odd.length + k] = 1577836800 + k * 86400 * 13 - 1;
        }
        for (int day : days) {
            Kit.House one = Kit.house();
            one.x.policy(1, 2, 14);
            one.x.clock(day);
            Forms.Body at = Forms.asBody();
            at.till = Kit.time(day + 86401);
            one.x.policy(1, 0, 1000000);
            one.x.policy(0, 0, 1000000);
            Kit.due("kdc at " + day, one.kdc(Forms.asReq(at)), 0);
            Kit.Node part = new Kit.Node(Kit.opened(Kit.TGS_18, 2, one.node().down(5, 3)));
            Kit.same("authtime", part.down(5).whole, Kit.time(day));
            Kit.same("endtime", part.down(7).whole, Kit.time(day + 86401));
        }
    }

    private static void bits() {
        Forms.Body body = Forms.asBody();
        String[] good = {"03050000000000", "0306000000000000", "03050040000000", "030900" + "0000000000000000"};
        String[] bad = {"030400000000", "03050100000000", "03050700000000", "030100", "0300", "04050000000000",
            "230500" + "00000000"};
        for (String value : good) {
            body.options = Kit.unhex(value);
            due("options " + value, body, true);
        }
        for (String value : bad) {
            body.options = Kit.unhex(value);
            due("options " + value, body, false);
        }
    }

    private static byte[] times(int count, byte[] value) {
        byte[] all = Kit.NIL;
        for (int k = 0; k < count; k++) {
            all = Kit.cat(all, value);
        }
        return Kit.seq(all);
    }

    private static void rows() {
        byte[] ticket = new Forms.Pass().der(Kit.encrypted(1, 2, Kit.NIL));
        for (int count = 0; count < 18; count++) {
            boolean read = count <= 16;
            Forms.Body body = Forms.asBody();
            body.etype = times(count, Kit.num(18));
            due(count + " etypes", body, read);
            body = Forms.asBody();
            body.addresses = times(count, Kit.pair(1, Kit.NIL));
            due(count + " addresses", body, read);
            body = Forms.asBody();
            body.cname = Kit.seq(Kit.f(0, Kit.num(1)), Kit.f(1, times(count, Kit.text("a"))));
            due(count + " parts", body, read);
            body = Forms.asBody();
            body.tickets = times(count, ticket);
            due(count + " tickets", body, read);
            byte[][] padata = new byte[count][];
            Arrays.fill(padata, Kit.pa(7, Kit.NIL));
            due(count + " padata", Forms.asReq(Forms.asBody(), padata), read);
        }
        Forms.Body body = Forms.asBody();
        body.addresses = Kit.seq(Kit.pair(1, Kit.NIL), Kit.num(1));
        due("an address that is none", body, false);
        body = Forms.asBody();
        body.tickets = Kit.seq(Kit.seq());
        due("a ticket that is none", body, false);
        body.tickets = Kit.seq(Kit.app(1, Kit.seq(Kit.f(0, Kit.num(5)), Kit.f(1, Kit.text("HOUSE")), Kit.f(2, Kit.TGS_NAME))));
        due("a ticket without its part", body, false);
    }

    private static void fields() {
        Forms.Body body = Forms.asBody();
        body.from = Kit.time(0);
        body.rtime = Kit.time(0);
        body.addresses = Kit.seq();
        body.authorization = Kit.encrypted(99, 4294967295L, Kit.bytes(1));
        body.tickets = Kit.seq();
        due("all fields", body, true);
        body.authorization = Kit.num(1);
        due("an EncryptedData that is none", body, false);
        byte[] der = Forms.asBody().der();
        due("without pvno", Kit.app(10, Kit.seq(Kit.f(2, Kit.num(10)), Kit.f(4, der))), false);
        due("without msg-type", Kit.app(10, Kit.seq(Kit.f(1, Kit.num(5)), Kit.f(4, der))), false);
        due("without req-body", Kit.app(10, Kit.seq(Kit.f(1, Kit.num(5)), Kit.f(2, Kit.num(10)))), false);
        due("in another order", Kit.app(10, Kit.seq(Kit.f(2, Kit.num(10)), Kit.f(1, Kit.num(5)), Kit.f(4, der))), false);
        due("one twice", Kit.app(10, Kit.seq(Kit.f(1, Kit.num(5)), Kit.f(1, Kit.num(5)), Kit.f(2, Kit.num(10)), Kit.f(4, der))),
            false);
        due("another number", Kit.app(10, Kit.seq(Kit.f(1, Kit.num(5)), Kit.f(2, Kit.num(10)), Kit.f(4, der), Kit.f(5, der))),
            false);
        due("a field 0", Kit.app(10, Kit.seq(Kit.f(0, Kit.num(5)), Kit.f(1, Kit.num(5)), Kit.f(2, Kit.num(10)), Kit.f(4, der))),
            false);
        due("a field with two values", Kit.app(10, Kit.seq(Kit.tlv(0xA1, Kit.num(5), Kit.num(5)), Kit.f(2, Kit.num(10)),
            Kit.f(4, der))), false);
        due("an empty field", Kit.app(10, Kit.seq(Kit.tlv(0xA1), Kit.f(2, Kit.num(10)), Kit.f(4, der))), false);
        due("a field's tag that is primitive", Kit.app(10, Kit.seq(Kit.tlv(0x81, Kit.num(5)), Kit.f(2, Kit.num(10)),
            Kit.f(4, der))), false);
        body = Forms.asBody();
        body.till = null;
        due("without till", body, false);
        body = Forms.asBody();
        body.nonce = null;
        due("without nonce", body, false);
        body = Forms.asBody();
        body.etype = null;
        due("without etype", body, false);
        body = Forms.asBody();
        body.realm = null;
        due("without realm", body, false);
        body = Forms.asBody();
        body.options = null;
        due("without kdc-options", body, false);
        body = Forms.asBody();
        body.cname = Kit.seq(Kit.f(0, Kit.num(1)));
        due("a name without parts", body, false);
        body.cname = Kit.seq(Kit.f(1, Kit.seq(Kit.text("anna"))));
        due("a name without a type", body, false);
        byte[] pa = Kit.seq(Kit.f(0, Kit.num(2)), Kit.f(1, Kit.oct(Kit.NIL)));
        due("padata of other numbers", Forms.asReq(Forms.asBody(), pa), false);
    }

    /** No part of a message is one, and no change of a length byte stays unseen or does harm. */
    private static void everyCut() {
        Forms.Body body = Forms.asBody();
        body.rtime = Kit.time(Kit.NOW);
        byte[] request = Forms.asReq(body, Kit.pa(7, Kit.NIL));
        for (int n = 0; n < request.length; n++) {
            due("the first " + n, Arrays.copyOf(request, n), false);
        }
    }
}
