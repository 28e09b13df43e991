import java.util.ArrayList;
import java.util.Arrays;
import java.util.List;
import java.util.function.Supplier;

/**
 * Terms, DER: each type of RFC 4120, Appendix A, that is read, with each of its fields at its edges, missing, twice,
 * out of order, with another number, or something behind it: what is still read, and what is BROKEN.
 */
public final class ShapesTest {
    public static void main(String[] args) {
        requests();
        messages();
        replies();
        partsOfTickets();
        partsOfReplies();
        partsOfSessions();
        shownAhead();
        Kit.finish();
    }

    // ---- what a value may be

    private abstract static class Kind {
        abstract byte[] usual();

        /** The one of fewest bytes: sixteen of them must fit into 40. */
        byte[] brief() {
            return usual();
        }

        abstract List<byte[]> goods();

        abstract List<byte[]> bads();
    }

    private static final class Plain extends Kind {
        private final byte[] usual;
        private final byte[] brief;
        private final List<byte[]> goods = new ArrayList<>();
        private final List<byte[]> bads = new ArrayList<>();

        Plain(byte[] usual, byte[] brief) {
            this.usual = usual;
            this.brief = brief;
        }

        Plain good(byte[]... values) {
            goods.addAll(Arrays.asList(values));
            return this;
        }

        Plain bad(byte[]... values) {
            bads.addAll(Arrays.asList(values));
            return this;
        }

        @Override
        byte[] usual() {
            return usual;
        }

        @Override
        byte[] brief() {
            return brief;
        }

        @Override
        List<byte[]> goods() {
            return goods;
        }

        @Override
        List<byte[]> bads() {
            return bads;
        }
    }

    private static byte[] raw(String hex) {
        return Kit.unhex(hex);
    }

    private static byte[] stamp(String text) {
        return Kit.tlv(0x18, Kit.ascii(text));
    }

    private static byte[] letters(int sign) {
        return Kit.tlv(0x1B, Kit.bytes('a', sign));
    }

    /** Numbers that no type of number is: not the fewest bytes, none at all, another tag. */
    private static Plain number(long usual) {
        return new Plain(Kit.num(usual), Kit.num(usual)).bad(raw("02020001"), raw("0200"), raw("0a0101"), raw("22020101"),
            raw("0202ffff"), raw("0206010000000000"), raw("02810101"));
    }

    private static Plain int32(long usual) {
        return number(usual).good(Kit.num(0), Kit.num(127), Kit.num(128), Kit.num(-1), Kit.num(-128), Kit.num(-129),
            Kit.num(2147483647L), Kit.num(-2147483648L)).bad(Kit.num(2147483648L), Kit.num(-2147483649L));
    }

    private static final Plain INT = int32(1);
    private static final Plain UINT = number(1).good(Kit.num(0), Kit.num(2147483648L), Kit.num(4294967295L))
        .bad(Kit.num(-1), Kit.num(4294967296L));
    private static final Plain MICRO = number(1).good(Kit.num(0), Kit.num(999999)).bad(Kit.num(-1), Kit.num(1000000));
    private static final Plain TEXT = new Plain(Kit.text("x"), Kit.text("")).good(Kit.text(""), letters(32), letters(126))
        .bad(letters(31), letters(127), letters(128), letters(255), letters(0), Kit.tlv(0x0C, Kit.ascii("x")),
            Kit.tlv(0x3B, Kit.ascii("x")));
    private static final Plain TIME = new Plain(Kit.time(5), Kit.time(5)).good(stamp("19700101000000Z"),
        stamp("20371231235959Z"), stamp("20000229235959Z")).bad(stamp("19691231235959Z"), stamp("20380101000000Z"),
        stamp("20010229000000Z"), stamp("20010101000060Z"), stamp("20010101000000"), stamp("20010101000000ZZ"),
        stamp("2001010100000:Z"), Kit.tlv(0x17, Kit.ascii("20010101000000Z")));
    private static final Plain BITS = new Plain(Kit.flags(0), Kit.flags(0)).good(raw("030500ffffffff"), raw("03060000000000ff"))
        .bad(raw("0304000000" + "00"), raw("03050100000000"), raw("03050700000000"), raw("0306010000000000"), raw("030100"), raw("0300"),
            raw("04050000000000"));
    private static final Plain OCTETS = new Plain(Kit.oct(Kit.bytes(1)), Kit.oct(Kit.NIL))
        .good(Kit.oct(Kit.NIL), Kit.oct(new byte[127]), Kit.oct(new byte[128]), Kit.oct(new byte[256]))
        .bad(raw("030101"), raw("2403040101"), raw("0481" + "0101"), Kit.cat(raw("0481" + "7f"), new byte[127]),
            Kit.cat(raw("0482" + "00ff"), new byte[255]), Kit.cat(raw("0480"), new byte[128]));

    /** One value and no other, where another one would be refused by the same code as what is BROKEN. */
    private static Plain only(byte[] value) {
        return new Plain(value, value);
    }

    private static final class Row extends Kind {
        private final Kind of;
        private final boolean one;

        Row(Kind of, boolean one) {
            this.of = of;
            this.one = one;
        }

        private static byte[] times(int count, byte[] value) {
            byte[] all = Kit.NIL;
            for (int k = 0; k < count; k++) {
                all = Kit.cat(all, value);
            }
            return Kit.seq(all);
        }

        @Override
        byte[] usual() {
            return Kit.seq(of.usual());
        }

        @Override
        byte[] brief() {
            return one ? Kit.seq(of.brief()) : Kit.seq();
        }

        @Override
        List<byte[]> goods() {
            List<byte[]> all = new ArrayList<>();
            if (!one) {
                all.add(Kit.seq());
                all.add(times(2, of.brief()));
                all.add(times(16, of.brief()));
            }
            for (byte[] value : of.goods()) {
                all.add(Kit.seq(value));
            }
            return all;
        }

        @Override
        List<byte[]> bads() {
            List<byte[]> all = new ArrayList<>();
            if (one) {
                all.add(Kit.seq());
                all.add(times(2, of.brief()));
                all.add(times(16, of.brief()));
            }
            all.add(times(17, of.brief()));
            all.add(Kit.tlv(0x31, of.usual()));
            all.add(Kit.tlv(0x10, of.usual()));
            all.add(Kit.seq(of.usual(), Kit.bytes(0)));
            for (byte[] value : of.bads()) {
                all.add(Kit.seq(value));
                all.add(Kit.seq(of.brief(), value));
            }
            return all;
        }
    }

    private static Row row(Kind of) {
        return new Row(of, false);
    }

    private static final class Field {
        final int number;
        final boolean may;
        final Kind kind;

        Field(int number, boolean may, Kind kind) {
            this.number = number;
            this.may = may;
            this.kind = kind;
        }
    }

    private static Field must(int number, Kind kind) {
        return new Field(number, false, kind);
    }

    private static Field may(int number, Kind kind) {
        return new Field(number, true, kind);
    }

    /** A SEQUENCE of fields, with an application's number around it or (0) without. */
    private static final class Shape extends Kind {
        private final int tag;
        private final Field[] fields;

        Shape(int tag, Field... fields) {
            this.tag = tag;
            this.fields = fields;
        }

        private byte[] around(byte[]... inner) {
            return tag == 0 ? Kit.seq(inner) : Kit.tlv(tag, Kit.seq(inner));
        }

        private byte[][] all() {
            byte[][] row = new byte[fields.length][];
            for (int k = 0; k < fields.length; k++) {
                row[k] = Kit.f(fields[k].number, fields[k].kind.usual());
            }
            return row;
        }

        private byte[] with(int k, byte[]... instead) {
            byte[][] row = all();
            row[k] = Kit.cat(instead);
            return around(row);
        }

        @Override
        byte[] usual() {
            return around(all());
        }

        @Override
        byte[] brief() {
            byte[][] row = all();
            for (int k = 0; k < fields.length; k++) {
                row[k] = fields[k].may ? Kit.NIL : Kit.f(fields[k].number, fields[k].kind.brief());
            }
            return around(row);
        }

        @Override
        List<byte[]> goods() {
            List<byte[]> list = new ArrayList<>();
            list.add(brief());
            for (int k = 0; k < fields.length; k++) {
                if (fields[k].may) {
                    list.add(with(k));
                }
                for (byte[] value : fields[k].kind.goods()) {
                    list.add(with(k, Kit.f(fields[k].number, value)));
                }
            }
            return list;
        }

        @Override
        List<byte[]> bads() {
            List<byte[]> list = new ArrayList<>();
            list.add(around());
            list.add(Kit.cat(usual(), Kit.bytes(0)));
            list.add(Kit.tlv(tag == 0 ? 0x31 : tag, tag == 0 ? Kit.NIL : Kit.tlv(0x31, all())));
            list.add(Kit.tlv(tag == 0x62 ? 0x63 : 0x62, Kit.seq(all())));
            if (tag != 0) {
                list.add(Kit.seq(all()));
                list.add(Kit.tlv(tag, Kit.seq(all()), Kit.bytes(5, 0)));
                list.add(Kit.tlv(tag, all()));
                list.add(Kit.tlv(tag));
            }
            for (int k = 0; k < fields.length; k++) {
                byte[] own = Kit.f(fields[k].number, fields[k].kind.usual());
                badField(list, k, own);
                for (byte[] value : fields[k].kind.bads()) {
                    list.add(with(k, Kit.f(fields[k].number, value)));
                }
            }
            return list;
        }

        private void badField(List<byte[]> list, int k, byte[] own) {
            int number = fields[k].number;
            int next = k + 1 < fields.length ? fields[k + 1].number : 32;
            if (!fields[k].may) {
                list.add(with(k));
            }
            list.add(with(k, own, own));
            list.add(with(k, own, Kit.bytes(5, 0)));
            list.add(with(k, Kit.f(number, Kit.NIL)));
            list.add(with(k, Kit.f(number, Kit.cat(fields[k].kind.usual(), Kit.bytes(5, 0)))));
            list.add(with(k, Kit.tlv(0x80 + number, fields[k].kind.usual())));
            list.add(with(k, Kit.tlv(0x60 + number, fields[k].kind.usual())));
            if (next > number + 1) {
                list.add(with(k, own, Kit.f(number + 1, Kit.num(1))));
                list.add(with(k, own, Kit.f(next - 1, fields[k].kind.usual())));
            }
            if (k + 1 < fields.length) {
                byte[][] row = all();
                byte[] moved = row[k];
                row[k] = row[k + 1];
                row[k + 1] = moved;
                list.add(around(row));
            }
        }
    }

    // ---- the types of RFC 4120, Appendix A

    private static final Kind NAME = new Shape(0, must(0, INT), must(1, row(TEXT)));
    /** EncryptionKey, Checksum, HostAddress, TransitedEncoding, an entry of AuthorizationData. */
    private static final Kind PAIR = new Shape(0, must(0, INT), must(1, OCTETS));
    private static final Kind SEALED = new Shape(0, must(0, INT), may(1, UINT), must(2, OCTETS));
    private static final Kind TICKET = new Shape(0x61, must(0, INT), must(1, TEXT), must(2, NAME), must(3, SEALED));
    private static final Kind PA_DATA = new Shape(0, must(1, INT), must(2, OCTETS));
    private static final Kind BODY = new Shape(0, must(0, BITS), may(1, NAME), must(2, TEXT), may(3, NAME), may(4, TIME),
        must(5, TIME), may(6, TIME), must(7, UINT), must(8, row(INT)), may(9, row(PAIR)), may(10, SEALED), may(11, row(TICKET)));

    private static Shape kdcReq(int tag) {
        return new Shape(tag, must(1, INT), must(2, INT), may(3, row(PA_DATA)), must(4, BODY));
    }

    private static Shape kdcRep(int tag) {
        return new Shape(tag, must(0, INT), must(1, INT), may(2, row(PA_DATA)), must(3, TEXT), must(4, NAME), must(5, TICKET),
            must(6, SEALED));
    }

    private static Shape kdcRepPart(int tag) {
        Kind entry = new Shape(0, must(0, INT), must(1, TIME));
        return new Shape(tag, must(0, PAIR), must(1, row(entry)), must(2, UINT), may(3, TIME), must(4, BITS), must(5, TIME),
            may(6, TIME), must(7, TIME), may(8, TIME), must(9, TEXT), must(10, NAME), may(11, row(PAIR)));
    }

    private static final Field[] DATA = {must(0, OCTETS), may(1, TIME), may(2, MICRO), may(3, UINT), must(4, PAIR), may(5, PAIR)};

    // ---- how it is seen whether a value was read

    private interface Reader {
        /** Whether the house answers otherwise than that it is BROKEN. */
        boolean reads(Kit.House h, byte[] value);
    }

    private static void dueShape(String what, Shape shape, Supplier<Kit.House> fresh, Reader reader) {
        List<byte[]> goods = shape.goods();
        goods.add(shape.usual());
        due(what, goods, true, fresh, reader);
        due(what, shape.bads(), false, fresh, reader);
    }

    /** A house serves for as many values as its 512 calls allow: what is refused changes nothing that counts here. */
    private static void due(String what, List<byte[]> values, boolean read, Supplier<Kit.House> fresh, Reader reader) {
        Kit.House h = fresh.get();
        for (byte[] value : values) {
            if (h.x.calls() + value.length / 20 + 60 > Played.CALLS) {
                h = fresh.get();
            }
            Kit.due(what + (read ? " is read: " : " is BROKEN: ") + Kit.hex(value), reader.reads(h, value), read);
        }
    }

    private static void requests() {
        Reader kdc = (h, value) -> h.kdc(value) != 60;
        dueShape("AS-REQ", kdcReq(0x6A), Kit::house, kdc);
        dueShape("TGS-REQ", kdcReq(0x6C), Kit::house, kdc);
        Shape apReq = new Shape(0x6E, must(0, INT), must(1, INT), must(2, BITS), must(3, TICKET), must(4, SEALED));
        dueShape("AP-REQ", apReq, Kit::house, (h, value) -> h.tape(value).x.serve(2) != -60);
        dueShape("AP-REQ in TGS-REQ", apReq, Kit::house,
            (h, value) -> h.kdc(Forms.tgsReq(Forms.tgsBody(), value)) != 60);
    }

    private static Kit.House visiting() {
        Kit.House h = Kit.house();
        h.agent(0, "anna:secret", 2);
        Forms.give(h, 0, Forms.wwwPass());
        h.x.present(0, 0, 0);
        h.carry().x.serve(2);
        return h;
    }

    private static void messages() {
        dueShape("AP-REP", new Shape(0x6F, must(0, INT), must(1, INT), must(2, SEALED)), ShapesTest::visiting, (h, value) -> {
            h.x.present(0, 0, 1);
            return h.tape(value).x.met(0) != -60;
        });
        dueShape("KRB-PRIV", new Shape(0x75, must(0, INT), must(1, INT), must(3, SEALED)), ShapesTest::visiting,
            (h, value) -> h.tape(value).x.receive(0, 1) != -60);
        dueShape("KRB-SAFE", new Shape(0x74, must(0, INT), must(1, INT), must(2, new Shape(0, DATA)), must(3, PAIR)),
            ShapesTest::visiting, (h, value) -> h.tape(value).x.assured(0, 1) != -60);
        dueShape("KRB-CRED", new Shape(0x76, must(0, INT), must(1, INT), must(2, new Row(TICKET, true)), must(3, SEALED)),
            ShapesTest::visiting, (h, value) -> h.tape(value).x.handed(0, 0) != -60);
    }

    private static void replies() {
        Reader take = (h, value) -> {
            h.request(0, 0, 0, "http/www", 0, 4, 0);
            return h.tape(value).x.take(0) != -60;
        };
        dueShape("AS-REP", kdcRep(0x6B), ShapesTest::visiting, take);
        dueShape("TGS-REP", kdcRep(0x6D), ShapesTest::visiting, take);
        // A code that is none of 1 .. 1000 is told as what is BROKEN.
        Plain code = number(7).good(Kit.num(1), Kit.num(1000)).bad(Kit.num(0), Kit.num(-1), Kit.num(1001), Kit.num(2147483648L));
        dueShape("KRB-ERROR", new Shape(0x7E, must(0, INT), must(1, INT), may(2, TIME), may(3, MICRO), must(4, TIME),
            must(5, MICRO), must(6, code), may(7, TEXT), may(8, NAME), must(9, TEXT), must(10, NAME), may(11, TEXT),
            may(12, OCTETS)), ShapesTest::visiting, take);
    }

    private static void partsOfTickets() {
        Plain house = only(Kit.text("HOUSE")).bad(Kit.text("HOUSF"), Kit.text("IOUSE"), Kit.text("HOUSE "), Kit.text(""), letters(31));
        Shape part = new Shape(0x63, must(0, BITS), must(1, PAIR), must(2, house), must(3, NAME), must(4, PAIR), must(5, TIME),
            may(6, TIME), must(7, TIME), may(8, TIME), may(9, row(PAIR)), may(10, row(PAIR)));
        byte[] none = Kit.encrypted(17, Kit.NONE, Kit.NIL);
        Forms.Pass www = Forms.wwwPass();
        dueShape("EncTicketPart", part, Kit::house,
            (h, value) -> h.tape(Forms.apReq(www.der(Kit.sealed(Kit.WWW_18, 2, 1, value)), none)).x.serve(2) != -60);
        Forms.Pass tgt = new Forms.Pass();
        dueShape("EncTicketPart of a TGT", part, Kit::house, (h, value) -> h.kdc(Forms.tgsReq(Forms.tgsBody(),
            Forms.apReq(tgt.der(Kit.sealed(Kit.TGS_18, 2, 1, value)), none))) != 60);
        Shape proof = new Shape(0x62, must(0, INT), must(1, TEXT), must(2, NAME), may(3, PAIR), must(4, MICRO), must(5, TIME),
            may(6, PAIR), may(7, UINT), may(8, row(PAIR)));
        dueShape("Authenticator", proof, Kit::house, (h, value) -> h.tape(Forms.apReq(www.der(),
            Kit.sealed(Kit.KEY_A, 11, Kit.NONE, value))).x.serve(2) != -60);
        dueShape("Authenticator of TGS-REQ", proof, Kit::house, (h, value) -> h.kdc(Forms.tgsReq(Forms.tgsBody(),
            Forms.apReq(tgt.der(), Kit.sealed(Kit.KEY_A, 7, Kit.NONE, value)))) != 60);
    }

    /** A reply around a sealed part that the test has made. */
    private static byte[] reply(int type, byte[] sealed) {
        return Kit.app(type, Kit.seq(Kit.f(0, Kit.num(5)), Kit.f(1, Kit.num(type)), Kit.f(3, Kit.text("HOUSE")),
            Kit.f(4, Kit.ANNA_NAME), Kit.f(5, new Forms.Pass().der()), Kit.f(6, sealed)));
    }

    private static void partsOfReplies() {
        Reader initial = (h, value) -> {
            h.request(0, 0, 0, "http/www", 0, 4, 0);
            return h.tape(reply(11, Kit.sealed(Kit.ANNA_18, 3, Kit.NONE, value))).x.take(0) != -60;
        };
        dueShape("EncASRepPart", kdcRepPart(0x79), ShapesTest::visiting, initial);
        dueShape("EncASRepPart with the number 26", kdcRepPart(0x7A), ShapesTest::visiting, initial);
        Reader further = (h, value) -> {
            h.request(0, 2, 0, "http/www", 0, 4, 0);
            Kit.Node proof = new Kit.Node(h.node().down(3).parts.get(0).down(2).inner);
            byte[] subkey = new Kit.Node(Kit.opened(Kit.KEY_A, 7, proof.down(4))).down(6, 1).inner;
            return h.tape(reply(13, Kit.sealed(subkey, 9, Kit.NONE, value))).x.take(0) != -60;
        };
        dueShape("EncTGSRepPart", kdcRepPart(0x7A), ShapesTest::visiting, further);
        due("EncTGSRepPart with the number 25", List.of(kdcRepPart(0x79).usual()), false, ShapesTest::visiting, further);
        dueShape("EncAPRepPart", new Shape(0x7B, must(0, TIME), must(1, MICRO), may(2, PAIR), may(3, UINT)), ShapesTest::visiting,
            (h, value) -> {
                h.x.present(0, 0, 1);
                byte[] sealed = Kit.sealed(Kit.KEY_A, 12, Kit.NONE, value);
                return h.tape(Kit.app(15, Kit.seq(Kit.f(0, Kit.num(5)), Kit.f(1, Kit.num(15)), Kit.f(2, sealed)))).x.met(0) != -60;
            });
    }

    private static void partsOfSessions() {
        dueShape("EncKrbPrivPart", new Shape(0x7C, DATA), ShapesTest::visiting, (h, value) -> h.tape(Forms.Data.priv(Kit.num(5),
            Kit.num(21), Kit.sealed(Kit.KEY_A, 13, Kit.NONE, value))).x.receive(0, 1) != -60);
        // pname, flags, authtime and endtime may be missing in RFC 4120, but not here.
        Shape info = new Shape(0, must(0, PAIR), may(1, TEXT), must(2, NAME), must(3, BITS), must(4, TIME), may(5, TIME),
            must(6, TIME), may(7, TIME), may(8, TEXT), may(9, NAME), may(10, row(PAIR)));
        Shape part = new Shape(0x7D, must(0, new Row(info, true)), may(1, UINT), may(2, TIME), may(3, MICRO), may(4, PAIR),
            may(5, PAIR));
        dueShape("EncKrbCredPart", part, ShapesTest::visiting, (h, value) -> h.tape(Kit.app(22, Kit.seq(Kit.f(0, Kit.num(5)),
            Kit.f(1, Kit.num(22)), Kit.f(2, Kit.seq(new Forms.Pass().der())),
            Kit.f(3, Kit.sealed(Kit.KEY_A, 14, Kit.NONE, value))))).x.handed(0, 0) != -60);
    }

    /** 24 when it is none; what was read is too old: 37. */
    private static void shownAhead() {
        Reader reader = (h, value) -> {
            int code = h.kdc(Forms.asReq(Forms.asBody(), Kit.pa(2, value)));
            Kit.due("24 or 37", code == 24 || code == 37, true);
            return code == 37;
        };
        dueShape("PA-ENC-TS-ENC", new Shape(0, must(0, TIME), may(1, MICRO)), Kit::house,
            (h, value) -> reader.reads(h, Kit.sealed(Kit.ANNA_18, 1, Kit.NONE, value)));
        byte[] old = Kit.seal(Kit.ANNA_18, 1, new byte[16], Kit.seq(Kit.f(0, Kit.time(5))));
        Plain type = number(18).bad(Kit.num(17), Kit.num(19), Kit.num(16), Kit.num(-1), Kit.num(2147483648L));
        Plain cipher = only(Kit.oct(old)).bad(Kit.tlv(3, old), Kit.oct(Kit.NIL), Kit.oct(new byte[27]), Kit.oct(new byte[28]));
        dueShape("EncryptedData", new Shape(0, must(0, type), may(1, UINT), must(2, cipher)), Kit::house, reader);
    }
}
