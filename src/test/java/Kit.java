import java.io.ByteArrayOutputStream;
import java.math.BigInteger;
import java.nio.charset.StandardCharsets;
import java.security.GeneralSecurityException;
import java.time.Instant;
import java.time.LocalDateTime;
import java.time.ZoneOffset;
import java.time.format.DateTimeFormatter;
import java.util.ArrayList;
import java.util.Arrays;
import java.util.List;
import javax.crypto.Cipher;
import javax.crypto.Mac;
import javax.crypto.spec.SecretKeySpec;

/**
 * What the tests share. DER and the ciphers are made anew here from the Java library, so that the class
 * is held against something that is not itself.
 */
final class Kit {
    static final int NOW = 1000000000;
    static final int NONE = Integer.MIN_VALUE;

    private static int wrong = 0;
    private static int looked = 0;

    private Kit() {
    }

    // ---- what is due

    static void due(String what, long got, long want) {
        looked++;
        if (got != want) {
            wrong++;
            System.out.println(what + " answered " + got + ", due is " + want);
        }
    }

    static void due(String what, boolean got, boolean want) {
        due(what, got ? 1 : 0, want ? 1 : 0);
    }

    static void same(String what, byte[] got, byte[] want) {
        looked++;
        if (!Arrays.equals(got, want)) {
            wrong++;
            System.out.println(what + " gave\n  " + hex(got) + ", due is\n  " + hex(want));
        }
    }

    static void finish() {
        System.out.println(looked + " answers looked at, " + wrong + " not as due");
        if (wrong != 0 || looked == 0) {
            System.exit(1);
        }
    }

    // ---- bytes

    static byte[] ascii(String text) {
        return text.getBytes(StandardCharsets.ISO_8859_1);
    }

    static byte[] cat(byte[]... rows) {
        ByteArrayOutputStream all = new ByteArrayOutputStream();
        for (byte[] row : rows) {
            all.write(row, 0, row.length);
        }
        return all.toByteArray();
    }

    static byte[] bytes(int... values) {
        byte[] row = new byte[values.length];
        for (int i = 0; i < row.length; i++) {
            row[i] = (byte) values[i];
        }
        return row;
    }

    static byte[] word(int value) {
        return bytes(value >>> 24, value >>> 16, value >>> 8, value);
    }

    static String hex(byte[] row) {
        StringBuilder text = new StringBuilder();
        for (byte b : row) {
            text.append(String.format("%02x", b));
        }
        return text.toString();
    }

    static byte[] unhex(String text) {
        byte[] row = new byte[text.length() / 2];
        for (int i = 0; i < row.length; i++) {
            row[i] = (byte) Integer.parseInt(text.substring(2 * i, 2 * i + 2), 16);
        }
        return row;
    }

    // ---- DER

    static final byte[] NIL = {};

    static byte[] tlv(int tag, byte[]... contents) {
        byte[] inner = cat(contents);
        int n = inner.length;
        byte[] length = n < 128 ? bytes(n) : n < 256 ? bytes(0x81, n) : bytes(0x82, n >> 8, n);
        return cat(bytes(tag), length, inner);
    }

    static byte[] seq(byte[]... contents) {
        return tlv(0x30, contents);
    }

    static byte[] app(int number, byte[]... contents) {
        return tlv(0x60 + number, contents);
    }

    /** A field, or nothing at all if there is no value. */
    static byte[] f(int number, byte[] value) {
        return value == null ? NIL : tlv(0xA0 + number, value);
    }

    static byte[] num(long value) {
        return tlv(2, BigInteger.valueOf(value).toByteArray());
    }

    static byte[] text(String value) {
        return tlv(0x1B, ascii(value));
    }

    static byte[] oct(byte[] value) {
        return tlv(4, value);
    }

    static byte[] flags(int value) {
        return tlv(3, bytes(0), word(value));
    }

    private static final DateTimeFormatter TIME = DateTimeFormatter.ofPattern("yyyyMMddHHmmss'Z'");

    static byte[] time(long seconds) {
        return tlv(0x18, ascii(TIME.format(Instant.ofEpochSecond(seconds).atOffset(ZoneOffset.UTC))));
    }

    static byte[] timeOrNone(long seconds) {
        return seconds == NONE ? null : time(seconds);
    }

    static byte[] numOrNone(long value) {
        return value == NONE ? null : num(value);
    }

    static byte[] name(int type, String... parts) {
        byte[] all = NIL;
        for (String part : parts) {
            all = cat(all, text(part));
        }
        return seq(f(0, num(type)), f(1, seq(all)));
    }

    /** A number and bytes, as keys, checksums, addresses are. */
    static byte[] pair(int type, byte[] value) {
        return seq(f(0, num(type)), f(1, oct(value)));
    }

    static byte[] key(byte[] key) {
        return pair(typeOf(key), key);
    }

    static byte[] encrypted(int type, long kvno, byte[] cipher) {
        return seq(f(0, num(type)), f(1, numOrNone(kvno)), f(2, oct(cipher)));
    }

    static byte[] pa(int type, byte[] value) {
        return seq(f(1, num(type)), f(2, oct(value)));
    }

    /** A value of DER, taken apart. */
    static final class Node {
        final int tag;
        final byte[] whole;
        final byte[] inner;
        final List<Node> parts = new ArrayList<>();

        Node(byte[] row) {
            this(row, 0);
        }

        private Node(byte[] row, int from) {
            tag = row[from] & 255;
            int length = row[from + 1] & 255;
            int start = from + 2;
            if (length == 0x81) {
                length = row[start] & 255;
                start += 1;
            } else if (length == 0x82) {
                length = (row[start] & 255) << 8 | row[start + 1] & 255;
                start += 2;
            }
            whole = Arrays.copyOfRange(row, from, start + length);
            inner = Arrays.copyOfRange(row, start, start + length);
            if ((tag & 0x20) != 0) {
                for (int at = 0; at < inner.length; at += parts.get(parts.size() - 1).whole.length) {
                    parts.add(new Node(inner, at));
                }
            }
        }

        /** A way down: the numbers of fields; a SEQUENCE or application around them is stepped into. */
        Node down(int... numbers) {
            Node at = this;
            for (int number : numbers) {
                at = at.field(number);
                if (at == null) {
                    return null;
                }
            }
            return at;
        }

        private Node field(int number) {
            Node sequence = tag >= 0x60 && tag < 0x80 ? parts.get(0) : this;
            for (Node part : sequence.parts) {
                if (part.tag == 0xA0 + number) {
                    return part.parts.get(0);
                }
            }
            return null;
        }

        long number() {
            return new BigInteger(inner).longValue();
        }

        long seconds() {
            return LocalDateTime.parse(new String(inner, StandardCharsets.ISO_8859_1), TIME).toEpochSecond(ZoneOffset.UTC);
        }
    }

    // ---- the ciphers of RFC 3961 and 3962

    static int typeOf(byte[] key) {
        return key.length == 32 ? 18 : 17;
    }

    static byte[] hmac(byte[] key, byte[] data) {
        try {
            Mac mac = Mac.getInstance("HmacSHA1");
            mac.init(new SecretKeySpec(key.length == 0 ? new byte[1] : key, "HmacSHA1"));
            return mac.doFinal(data);
        } catch (GeneralSecurityException e) {
            throw new IllegalStateException(e);
        }
    }

    private static byte[] aes(byte[] key, byte[] block, boolean forth) {
        try {
            Cipher cipher = Cipher.getInstance("AES/ECB/NoPadding");
            cipher.init(forth ? Cipher.ENCRYPT_MODE : Cipher.DECRYPT_MODE, new SecretKeySpec(key, "AES"));
            return cipher.doFinal(block);
        } catch (GeneralSecurityException e) {
            throw new IllegalStateException(e);
        }
    }

    /** n-fold by its definition: copies, each turned 13 bits more, added with the carry coming round. */
    static byte[] fold(byte[] data, int size) {
        int bits = data.length * 8;
        int lcm = size;
        while (lcm % data.length != 0) {
            lcm += size;
        }
        StringBuilder all = new StringBuilder();
        StringBuilder one = new StringBuilder();
        for (byte b : data) {
            one.append(String.format("%8s", Integer.toBinaryString(b & 255)).replace(' ', '0'));
        }
        for (int copy = 0; copy < lcm / data.length; copy++) {
            int by = 13 * copy % bits;
            all.append(one.substring(bits - by)).append(one.substring(0, bits - by));
        }
        BigInteger modulus = BigInteger.ONE.shiftLeft(size * 8).subtract(BigInteger.ONE);
        BigInteger sum = BigInteger.ZERO;
        for (int at = 0; at < all.length(); at += size * 8) {
            sum = sum.add(new BigInteger(all.substring(at, at + size * 8), 2));
        }
        while (sum.compareTo(modulus) > 0) {
            sum = sum.mod(modulus.add(BigInteger.ONE)).add(sum.shiftRight(size * 8));
        }
        byte[] row = new byte[size];
        byte[] value = sum.toByteArray();
        for (int i = 0; i < size && i < value.length; i++) {
            row[size - 1 - i] = value[value.length - 1 - i];
        }
        return row;
    }

    static byte[] derive(byte[] key, byte[] constant) {
        byte[] row = NIL;
        byte[] block = fold(constant, 16);
        while (row.length < key.length) {
            block = aes(key, block, true);
            row = cat(row, block);
        }
        return Arrays.copyOf(row, key.length);
    }

    static byte[] usageKey(byte[] key, int usage, int purpose) {
        return derive(key, cat(word(usage), bytes(purpose)));
    }

    static byte[] stringToKey(int type, String password, String salt, int count) {
        byte[] row = NIL;
        for (int k = 1; row.length < (type == 18 ? 32 : 16); k++) {
            byte[] turn = hmac(ascii(password), cat(ascii(salt), word(k)));
            byte[] sum = turn;
            for (int i = 1; i < count; i++) {
                turn = hmac(ascii(password), turn);
                sum = new BigInteger(1, sum).xor(new BigInteger(1, turn)).toByteArray();
                sum = fit(sum, 20);
            }
            row = cat(row, sum);
        }
        return derive(Arrays.copyOf(row, type == 18 ? 32 : 16), ascii("kerberos"));
    }

    private static byte[] fit(byte[] value, int size) {
        byte[] row = new byte[size];
        for (int i = 0; i < size && i < value.length; i++) {
            row[size - 1 - i] = value[value.length - 1 - i];
        }
        return row;
    }

    private static byte[] xor(byte[] a, byte[] b) {
        byte[] row = a.clone();
        for (int i = 0; i < row.length; i++) {
            row[i] ^= b[i];
        }
        return row;
    }

    static byte[] ctsEncrypt(byte[] key, byte[] data) {
        int blocks = (data.length + 15) / 16;
        byte[] padded = Arrays.copyOf(data, blocks * 16);
        byte[] before = new byte[16];
        List<byte[]> row = new ArrayList<>();
        for (int k = 0; k < blocks; k++) {
            before = aes(key, xor(Arrays.copyOfRange(padded, 16 * k, 16 * k + 16), before), true);
            row.add(before);
        }
        if (blocks > 1) {
            row.add(row.remove(blocks - 2));
        }
        return Arrays.copyOf(cat(row.toArray(new byte[0][])), data.length);
    }

    static byte[] ctsDecrypt(byte[] key, byte[] data) {
        int blocks = (data.length + 15) / 16;
        if (blocks == 1) {
            return aes(key, data, false);
        }
        int tail = data.length - 16 * (blocks - 1);
        byte[] last = Arrays.copyOfRange(data, 16 * (blocks - 2), 16 * (blocks - 1));
        byte[] opened = aes(key, last, false);
        byte[] stolen = opened.clone();
        System.arraycopy(data, 16 * (blocks - 1), stolen, 0, tail);
        byte[] straight = cat(Arrays.copyOf(data, 16 * (blocks - 2)), stolen, last);
        byte[] before = new byte[16];
        byte[] text = NIL;
        for (int k = 0; k < blocks; k++) {
            byte[] block = Arrays.copyOfRange(straight, 16 * k, 16 * k + 16);
            text = cat(text, xor(aes(key, block, false), before));
            before = block;
        }
        return Arrays.copyOf(text, data.length);
    }

    static byte[] seal(byte[] key, int usage, byte[] confounder, byte[] text) {
        byte[] all = cat(confounder, text);
        byte[] mac = Arrays.copyOf(hmac(usageKey(key, usage, 0x55), all), 12);
        return cat(ctsEncrypt(usageKey(key, usage, 0xAA), all), mac);
    }

    /** EncryptedData with a confounder of noughts. */
    static byte[] sealed(byte[] key, int usage, long kvno, byte[] text) {
        return encrypted(typeOf(key), kvno, seal(key, usage, new byte[16], text));
    }

    /** What is in EncryptedData; null if the key does not open it. */
    static byte[] opened(byte[] key, int usage, Node encrypted) {
        byte[] cipher = encrypted.down(2).inner;
        int n = cipher.length - 12;
        byte[] all = ctsDecrypt(usageKey(key, usage, 0xAA), Arrays.copyOf(cipher, n));
        byte[] mac = Arrays.copyOf(hmac(usageKey(key, usage, 0x55), all), 12);
        boolean good = Arrays.equals(mac, Arrays.copyOfRange(cipher, n, n + 12))
            && encrypted.down(0).number() == typeOf(key);
        return good ? Arrays.copyOfRange(all, 16, all.length) : null;
    }

    static byte[] sum(byte[] key, int usage, byte[] data) {
        return Arrays.copyOf(hmac(usageKey(key, usage, 0x99), data), 12);
    }

    static byte[] checksum(byte[] key, int usage, byte[] data) {
        return pair(typeOf(key) - 2, sum(key, usage, data));
    }

    /** The row of COINS of a seed. */
    static final class Coins {
        private final byte[] seed;
        private int at = 0;

        Coins(byte[] seed) {
            this.seed = seed;
        }

        byte[] next(int count) {
            byte[] row = new byte[count];
            for (int i = 0; i < count; i++, at++) {
                row[i] = hmac(seed, word(at / 20))[at % 20];
            }
            return row;
        }

        long number(int mask) {
            return new BigInteger(1, next(4)).longValue() & mask;
        }
    }

    // ---- a house and its bytes

    static final class House {
        final Played x = new Played();

        House tape(byte[] row) {
            x.end(0);
            byte[] padded = Arrays.copyOf(row, (row.length + 19) / 20 * 20);
            for (int i = 0; i < padded.length; i += 20) {
                if (!x.feed(at(padded, i), at(padded, i + 4), at(padded, i + 8), at(padded, i + 12), at(padded, i + 16))) {
                    throw new IllegalArgumentException("too long for the TAPE: " + row.length);
                }
            }
            x.end(row.length);
            return this;
        }

        House tape(String text) {
            return tape(ascii(text));
        }

        private static int at(byte[] row, int i) {
            return (row[i] & 255) << 24 | (row[i + 1] & 255) << 16 | (row[i + 2] & 255) << 8 | row[i + 3] & 255;
        }

        /** Whether the TAPE has just so many bytes. */
        boolean hasTape(int count) {
            return !x.end(count + 1) && x.end(count);
        }

        byte[] out() {
            return x.whole();
        }

        Node node() {
            return new Node(out());
        }

        House carry() {
            x.carry(-1, 0);
            return this;
        }

        int principal(String nameAndPassword, int count) {
            return tape(nameAndPassword).x.principal(count);
        }

        boolean agent(int a, String nameAndPassword, int count) {
            return tape(nameAndPassword).x.agent(a, count);
        }

        int request(int a, int kind, int w, String service, int options, int etypes, int life) {
            return tape(service).x.request(a, kind, w, options, etypes, life, 0);
        }

        /** The whole way of a request to a TICKET: its number, or why not. */
        int fetch(int a, int kind, int w, String service, int options, int etypes, int life) {
            request(a, kind, w, service, options, etypes, life);
            carry().x.kdc();
            return carry().x.take(a);
        }

        int kdc(byte[] request) {
            return tape(request).x.kdc();
        }
    }

    /** Seed 'coins'; 'anna' (1, 'secret', COUNT 2) and 'http/www' (2, 'serv', COUNT 1). */
    static House house() {
        House h = new House();
        h.tape("coins").x.seed();
        h.principal("anna:secret", 2);
        h.principal("http/www:serv", 1);
        return h;
    }

    static final byte[] ANNA_18 = stringToKey(18, "secret", "HOUSEanna", 2);
    static final byte[] ANNA_17 = stringToKey(17, "secret", "HOUSEanna", 2);
    static final byte[] WWW_18 = stringToKey(18, "serv", "HOUSEhttpwww", 1);
    static final byte[] WWW_17 = stringToKey(17, "serv", "HOUSEhttpwww", 1);
    static final byte[] TGS_18 = stringToKey(18, "", "HOUSEkrbtgtHOUSE", 1);
    static final byte[] TGS_17 = stringToKey(17, "", "HOUSEkrbtgtHOUSE", 1);
    static final byte[] TGS_NAME = name(2, "krbtgt", "HOUSE");
    static final byte[] WWW_NAME = name(2, "http", "www");
    static final byte[] ANNA_NAME = name(1, "anna");
    static final byte[] KEY_A = unhex("000102030405060708090a0b0c0d0e0f101112131415161718191a1b1c1d1e1f");
    static final byte[] KEY_B = unhex("a0a1a2a3a4a5a6a7a8a9aaabacadaeaf");

    /** KRB-ERROR as the house writes it. */
    static byte[] error(int now, int code, byte[] crealm, byte[] cname, byte[] sname, byte[] data) {
        return app(30, seq(f(0, num(5)), f(1, num(30)), f(4, time(now)), f(5, num(0)), f(6, num(code)),
            f(7, crealm), f(8, cname), f(9, text("HOUSE")), f(10, sname), f(12, data == null ? null : oct(data))));
    }
}
