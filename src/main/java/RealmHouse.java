/**
 * A realm of Kerberos 5 (RFC 4120): its principals, its centre (KDC), its agents and its services,
 * all of them steps on bytes that the caller carries from one to the other.
 */
public final class RealmHouse {
    private static final int TAPE_MOST = 4000;
    /** A reply holds the addresses of its request twice, so it may be more than twice the TAPE. */
    private static final int OUT_MOST = 12288;
    private static final int SEED_MOST = 64;
    private static final int CLOCK_MOST = 2000000000;
    private static final int PRINCIPALS = 12;
    private static final int AGENTS = 4;
    private static final int SESSIONS = 8;
    private static final int ROUNDS_MOST = 200;
    private static final int PASSWORD_MOST = 20;
    private static final int PART_MOST = 16;
    private static final int SHIFT_MOST = 100000;
    private static final int SPAN_MOST = 100000000;
    private static final int DATA_MOST = 1000;
    private static final int FLAG_MOST = 63;

    /** Behind this many seconds two clocks are apart. */
    private static final int SKEW = 300;
    /** A name's parts, with their tags and lengths, that the house can keep. */
    private static final int PARTS_MOST = 40;
    private static final int ROOM_MOST = 32;

    private static final String REALM = "HOUSE";
    private static final String CENTRE_PART = "krbtgt";
    private static final String CENTRE_NAME = "krbtgt/HOUSE";
    private static final byte[] NO_KEY = {};

    private static final int SEQUENCE = 0x30;
    private static final int OCTET_STRING = 4;
    private static final int GENERAL_STRING = 0x1B;

    /** The kinds of values that are read: of an application's number, 256 and its first byte. */
    private static final int AS_REQ = 256 + 106;
    private static final int TGS_REQ = 256 + 108;
    private static final int AS_REP = 256 + 107;
    private static final int TGS_REP = 256 + 109;
    private static final int AP_REQ = 256 + 110;
    private static final int AP_REP = 256 + 111;
    private static final int KRB_SAFE = 256 + 116;
    private static final int KRB_PRIV = 256 + 117;
    private static final int KRB_CRED = 256 + 118;
    private static final int AUTHENTICATOR = 256 + 98;
    private static final int TICKET_PART = 256 + 99;
    private static final int AS_REP_PART = 256 + 121;
    private static final int TGS_REP_PART = 256 + 122;
    private static final int AP_REP_PART = 256 + 123;
    private static final int PRIV_PART = 256 + 124;
    private static final int CRED_PART = 256 + 125;
    private static final int KRB_ERROR = 256 + 126;
    private static final int ENCRYPTED = 'e';
    private static final int SHOWN_AHEAD = 'x';

    /** Bits of kdc-options and of a ticket's flags; the two agree where both have one. */
    private static final int FORWARDABLE = 0x40000000;
    private static final int FORWARDED = 0x20000000;
    private static final int PROXIABLE = 0x10000000;
    private static final int PROXY = 0x08000000;
    private static final int RENEWABLE = 0x00800000;
    private static final int INITIAL = 0x00400000;
    private static final int PRE_AUTHENT = 0x00200000;
    private static final int CANONICALIZE = 0x00010000;
    private static final int NO_TRANSIT_CHECK = 0x00000020;
    private static final int RENEWABLE_OK = 0x00000010;
    private static final int RENEW = 0x00000002;
    private static final int AS_OPTIONS =
        FORWARDABLE | PROXIABLE | RENEWABLE | CANONICALIZE | NO_TRANSIT_CHECK | RENEWABLE_OK;
    private static final int TGS_OPTIONS = AS_OPTIONS | FORWARDED | PROXY | RENEW;
    private static final int MUTUAL = 0x20000000;

    /** FLAGS of a POLICY. */
    private static final int MUST_SHOW = 1;
    private static final int MAY_FORWARD = 2;
    private static final int MAY_PROXY = 4;
    private static final int MAY_RENEW = 8;
    private static final int NO_SERVICE = 16;
    private static final int LOCKED = 32;

    private static final int USAGE_SHOWN = 1;
    private static final int USAGE_TICKET = 2;
    private static final int USAGE_AS_REP = 3;
    private static final int USAGE_BODY = 6;
    private static final int USAGE_TGS_PROOF = 7;
    private static final int USAGE_TGS_REP = 8;
    private static final int USAGE_TGS_REP_SUBKEY = 9;
    private static final int USAGE_PROOF = 11;
    private static final int USAGE_AP_REP = 12;
    private static final int USAGE_PRIV = 13;
    private static final int USAGE_CRED = 14;
    private static final int USAGE_SAFE = 15;

    private final Vault vault;
    private final Bytes tape;
    private final Bytes said;
    private final Bytes parts;
    private final Principal[] principals;
    private final Gate gate;
    private final Centre centre;
    private final Agent[] agents;
    private final Session[] sessions;

    public RealmHouse() {
        vault = new Vault();
        tape = new Bytes(TAPE_MOST);
        said = new Bytes(OUT_MOST);
        parts = new Bytes(PARTS_MOST);
        gate = new Gate(vault);
        principals = new Principal[PRINCIPALS];
        for (int p = 0; p < PRINCIPALS; p++) {
            principals[p] = new Principal();
        }
        agents = new Agent[AGENTS];
        for (int a = 0; a < AGENTS; a++) {
            agents[a] = new Agent(vault);
        }
        sessions = new Session[SESSIONS];
        for (int n = 0; n < SESSIONS; n++) {
            sessions[n] = new Session(vault);
        }
        putCentreName(parts);
        principals[0].begin(parts);
        principals[0].rekey(vault, tape, 0, 1);
        centre = new Centre(vault, gate, principals, tape, said);
    }

    public boolean feed(int a, int b, int c, int d, int e) {
        if (tape.size + 20 > TAPE_MOST) {
            return false;
        }
        tape.putWord(a);
        tape.putWord(b);
        tape.putWord(c);
        tape.putWord(d);
        tape.putWord(e);
        return true;
    }

    public boolean end(int n) {
        if (n < 0 || n > tape.size) {
            return false;
        }
        tape.size = n;
        return true;
    }

    public int carry(int k, int mask) {
        tape.clear();
        int count = Math.min(said.size, TAPE_MOST);
        tape.append(said.row, 0, count);
        if (k >= 0 && k < count) {
            tape.row[k] = (byte) (tape.row[k] ^ mask);
        }
        return count;
    }

    public int out(int i) {
        return i == -1 ? said.size : said.at(i);
    }

    public boolean clock(int t) {
        if (t < 0 || t > CLOCK_MOST) {
            return false;
        }
        vault.now = t;
        return true;
    }

    public boolean seed() {
        if (tape.size > SEED_MOST) {
            return false;
        }
        vault.sow(tape);
        tape.clear();
        return true;
    }

    public int principal(int count) {
        int free = 0;
        while (free < PRINCIPALS && principals[free].there) {
            free++;
        }
        int password = passwordPlace();
        boolean good = password >= 0 && isRounds(count) && free < PRINCIPALS
            && Principal.findParts(principals, parts) < 0;
        if (good) {
            principals[free].begin(parts);
            principals[free].rekey(vault, tape, password, count);
        }
        tape.clear();
        return good ? free : -1;
    }

    public int change(int p, int count) {
        boolean good = isPrincipal(p) && isRounds(count) && isPassword(0);
        if (good) {
            principals[p].rekey(vault, tape, 0, count);
        }
        tape.clear();
        return good ? principals[p].version : -1;
    }

    public boolean policy(int p, int what, int v) {
        return isPrincipal(p) && principals[p].rule(what, v);
    }

    public boolean room(int n) {
        if (n < 1 || n > ROOM_MOST) {
            return false;
        }
        gate.most = n;
        return true;
    }

    public int kdc() {
        int code = centre.judge();
        if (code == 0 && !centre.initial) {
            int proof = centre.shown(1);
            int stop = tape.stop(proof, tape.size);
            code = gate.judge(tape, tape.body(proof), stop, principals[0], centre.seen, USAGE_TGS_PROOF);
        }
        if (code == 0) {
            code = centre.initial ? centre.judgeAs() : centre.judgeTgs();
        }
        if (code == 0) {
            centre.putReply();
        } else {
            centre.putError(code);
        }
        tape.clear();
        return code;
    }

    public boolean agent(int a, int count) {
        int password = passwordPlace();
        boolean good = a >= 0 && a < AGENTS && isRounds(count) && password >= 0;
        if (good) {
            agents[a].begin(parts, tape, password, count);
            for (int n = 0; n < SESSIONS; n++) {
                sessions[n].leave(a);
            }
        }
        tape.clear();
        return good;
    }

    public boolean shift(int a, int seconds) {
        if (!isAgent(a) || seconds < -SHIFT_MOST || seconds > SHIFT_MOST) {
            return false;
        }
        agents[a].ahead = seconds;
        return true;
    }

    public int request(int a, int kind, int w, int options, int etypes, int life, int renew) {
        boolean good = isAgent(a) && kind >= 0 && kind <= 2 && etypes >= 1 && etypes <= 4
            && isSpan(life) && isSpan(renew) && (kind != 2 || agents[a].has(w)) && readService();
        tape.clear();
        if (!good) {
            return -1;
        }
        agents[a].keepAsked(kind, w, options, etypes, parts);
        agents[a].putBody(options, life, renew);
        agents[a].putRequest(w, said);
        return said.size;
    }

    public int take(int a) {
        int answer = isAgent(a) ? agents[a].hearReply(tape) : -1;
        tape.clear();
        return answer;
    }

    public int ticket(int a, int w, int what) {
        return hasTicket(a, w) ? agents[a].wallet[w].tell(what) : -1;
    }

    public boolean drop(int a, int w) {
        if (!hasTicket(a, w)) {
            return false;
        }
        agents[a].wallet[w].there = false;
        return true;
    }

    public int present(int a, int w, int how) {
        if (!hasTicket(a, w) || how < 0 || how > 3) {
            return -1;
        }
        agents[a].goWith(agents[a].wallet[w], how, said);
        return said.size;
    }

    public int serve(int s) {
        if (!isPrincipal(s)) {
            tape.clear();
            return -1;
        }
        Principal host = principals[s];
        int free = 0;
        while (free < SESSIONS && sessions[free].there) {
            free++;
        }
        int code = gate.judge(tape, 0, tape.size, host, host.seen, USAGE_PROOF);
        if (code == 0) {
            code = gate.judgeVisit(host, free < SESSIONS);
        }
        said.clear();
        if (code != 0) {
            putRefusal(host, code);
        } else {
            sessions[free].begin(gate, (tape.bitsAt(tape.field(0, 2)) & MUTUAL) != 0, said);
        }
        tape.clear();
        return code == 0 ? free : -code;
    }

    public int met(int a) {
        int answer = isAgent(a) ? agents[a].hearService(tape) : -1;
        tape.clear();
        return answer;
    }

    public boolean joins(int n, int a) {
        return isSession(n) && isAgent(a) && sessions[n].join(a, agents[a]);
    }

    public int send(int n, int side) {
        boolean good = isSide(n, side) && tape.size <= DATA_MOST;
        if (good) {
            sessions[n].putPrivate(side, timeOf(n, side), tape, said);
        }
        tape.clear();
        return good ? said.size : -1;
    }

    public int receive(int n, int side) {
        int answer = isSide(n, side)
            ? sessions[n].hearPrivate(side, timeOf(n, side), tape, said) : -1;
        tape.clear();
        return answer;
    }

    public boolean ends(int n) {
        if (!isSession(n)) {
            return false;
        }
        sessions[n].there = false;
        return true;
    }

    public int assure(int n, int side) {
        boolean good = isSide(n, side) && tape.size <= DATA_MOST;
        if (good) {
            sessions[n].putSafe(side, timeOf(n, side), tape, said);
        }
        tape.clear();
        return good ? said.size : -1;
    }

    public int assured(int n, int side) {
        int answer = isSide(n, side)
            ? sessions[n].hearSafe(side, timeOf(n, side), tape, said) : -1;
        tape.clear();
        return answer;
    }

    public int hand(int n, int w) {
        if (!isSide(n, 0) || !hasTicket(sessions[n].joined, w)) {
            return -1;
        }
        Agent giver = agents[sessions[n].joined];
        sessions[n].putCred(giver.wallet[w], giver.time(), said);
        return said.size;
    }

    public int handed(int n, int a) {
        int answer = -1;
        if (isSession(n) && isAgent(a)) {
            answer = sessions[n].judgeCred(tape);
            if (answer == 0) {
                answer = agents[a].keepHanded(tape);
            }
        }
        tape.clear();
        return answer;
    }

    private boolean isPrincipal(int p) {
        return p >= 0 && p < PRINCIPALS && principals[p].there;
    }

    private boolean isAgent(int a) {
        return a >= 0 && a < AGENTS && agents[a].there;
    }

    private boolean hasTicket(int a, int w) {
        return isAgent(a) && agents[a].has(w);
    }

    private boolean isSession(int n) {
        return n >= 0 && n < SESSIONS && sessions[n].there;
    }

    private boolean isSide(int n, int side) {
        return isSession(n) && (side == 1 || side == 0 && isAgent(sessions[n].joined));
    }

    /** A side's clock: a service has the CLOCK itself. */
    private int timeOf(int n, int side) {
        int a = sessions[n].joined;
        return side == 0 && isAgent(a) ? agents[a].time() : vault.now;
    }

    private static boolean isRounds(int count) {
        return count >= 1 && count <= ROUNDS_MOST;
    }

    private static boolean isSpan(int seconds) {
        return seconds >= 0 && seconds <= SPAN_MOST;
    }

    private boolean isPassword(int start) {
        if (tape.size - start > PASSWORD_MOST) {
            return false;
        }
        return tape.isPrintable(start, tape.size);
    }

    /** Where the password of the TAPE's 'NAME:password' begins, its NAME in parts; -1 if it is none. */
    private int passwordPlace() {
        int colon = 0;
        while (colon < tape.size && tape.at(colon) != ':') {
            colon++;
        }
        boolean good = colon < tape.size && readName(colon) && isPassword(colon + 1);
        return good ? colon + 1 : -1;
    }

    /** The TAPE as the NAME of a service into parts. */
    private boolean readService() {
        if (tape.isText(0, tape.size, CENTRE_NAME)) {
            putCentreName(parts);
            return true;
        }
        return readName(tape.size);
    }

    private boolean readName(int stop) {
        parts.clear();
        int start = 0;
        int count = 0;
        for (int i = 0; i <= stop; i++) {
            int sign = i < stop ? tape.at(i) : '/';
            boolean letter = sign >= 'a' && sign <= 'z';
            boolean digit = sign >= '0' && sign <= '9';
            if (sign == '/') {
                if (i - start < 1 || i - start > PART_MOST || count == 2) {
                    return false;
                }
                parts.putValue(GENERAL_STRING, tape.row, start, i - start);
                start = i + 1;
                count++;
            } else if (!letter && (!digit || i == 0)) {
                return false;
            }
        }
        return true;
    }

    private static void putCentreName(Bytes to) {
        to.clear();
        to.putText(CENTRE_PART);
        to.putText(REALM);
    }

    private void putRefusal(Principal host, int code) {
        int whole = said.open(126);
        int row = said.open(SEQUENCE);
        said.putErrorHead(vault.now, code);
        said.putRealm(9);
        said.putName(10, 2, host.name);
        said.close(row);
        said.close(whole);
    }

    /** Bytes in a row, with what writes DER behind them and reads it among them. */
    private static final class Bytes {
        private static final int DEPTH_MOST = 20;
        private static final int ROW_MOST = 16;
        /** KRB-ERROR has the most. */
        private static final int FIELDS_MOST = 13;
        private static final long INT_LEAST = -2147483648L;
        private static final long INT_MOST = 2147483647L;
        private static final long UINT_MOST = 4294967295L;
        private static final long MICRO_MOST = 999999L;
        private static final int[] MONTH_STARTS = {0, 31, 59, 90, 120, 151, 181, 212, 243, 273, 304, 334, 365};

        final byte[] row;
        int size;

        Bytes(int most) {
            row = new byte[Math.max(0, most)];
        }

        void clear() {
            size = 0;
        }

        int at(int i) {
            return i >= 0 && i < size ? row[i] & 255 : -1;
        }

        void put(int value) {
            if (size < row.length) {
                row[size] = (byte) value;
                size++;
            }
        }

        void putWord(int value) {
            put(value >> 24);
            put(value >> 16);
            put(value >> 8);
            put(value);
        }

        void append(byte[] from, int start, int count) {
            if (start < 0 || count < 0 || count > from.length - start || count > row.length - size) {
                return;
            }
            System.arraycopy(from, start, row, size, count);
            size += count;
        }

        void copyOf(Bytes other) {
            size = 0;
            append(other.row, 0, other.size);
        }

        /** The first bytes go, the others come forward. */
        void skip(int count) {
            if (count < 0 || count > size) {
                return;
            }
            System.arraycopy(row, count, row, 0, size - count);
            size -= count;
        }

        /** A value whose length is not known yet: what close() of its mark wants. */
        int open(int tag) {
            if (size < row.length - 1) {
                row[size] = (byte) tag;
                size += 2;
            }
            return size;
        }

        void close(int mark) {
            int length = size - mark;
            int more = length < 128 ? 0 : length < 256 ? 1 : 2;
            if (mark < 1 || length < 0 || more > row.length - size) {
                return;
            }
            if (more == 0) {
                row[mark - 1] = (byte) length;
                return;
            }
            System.arraycopy(row, mark, row, mark + more, length);
            row[mark - 1] = (byte) (128 + more);
            if (more == 2) {
                row[mark] = (byte) (length >> 8);
            }
            row[mark + more - 1] = (byte) length;
            size += more;
        }

        int openField(int field) {
            return open(0xA0 + field);
        }

        void putValue(int tag, byte[] from, int start, int count) {
            int mark = open(tag);
            append(from, start, count);
            close(mark);
        }

        void putNumber(int field, long value) {
            int mark = openField(field);
            putInteger(value);
            close(mark);
        }

        void putInteger(long value) {
            int count = 1;
            while (count < 8 && value >> (8 * count - 1) != 0 && value >> (8 * count - 1) != -1) {
                count++;
            }
            put(2);
            put(count);
            for (int k = count - 1; k >= 0; k--) {
                put((int) (value >> (8 * k)));
            }
        }

        void putLetters(String text) {
            for (int i = 0; i < text.length(); i++) {
                put(text.charAt(i));
            }
        }

        void putText(String text) {
            int mark = open(GENERAL_STRING);
            putLetters(text);
            close(mark);
        }

        void putRealm(int field) {
            int mark = openField(field);
            putText(REALM);
            close(mark);
        }

        void putBits(int field, int flags) {
            int mark = openField(field);
            put(3);
            put(5);
            put(0);
            putWord(flags);
            close(mark);
        }

        void putOctets(int field, byte[] from, int start, int count) {
            int mark = openField(field);
            putValue(OCTET_STRING, from, start, count);
            close(mark);
        }

        /** A number and bytes in a SEQUENCE, as keys, checksums and addresses are written. */
        void putPair(int field, int type, byte[] from, int count) {
            int mark = openField(field);
            int inner = open(SEQUENCE);
            putNumber(0, type);
            putOctets(1, from, 0, count);
            close(inner);
            close(mark);
        }

        void putKey(int field, byte[] key) {
            putPair(field, Vault.typeOf(key), key, key.length);
        }

        void putName(int field, int type, Bytes parts) {
            int mark = openField(field);
            int inner = open(SEQUENCE);
            putNumber(0, type);
            int strings = openField(1);
            putValue(SEQUENCE, parts.row, 0, parts.size);
            close(strings);
            close(inner);
            close(mark);
        }

        /** The value at the place of another row, as it stands there. */
        void putCopy(int field, Bytes from, int place) {
            int stop = from.stop(place, from.size);
            if (stop < 0) {
                return;
            }
            int mark = openField(field);
            append(from.row, place, stop - place);
            close(mark);
        }

        void putTime(int field, int seconds) {
            int mark = openField(field);
            put(0x18);
            put(15);
            int days = seconds / 86400;
            int rest = seconds % 86400;
            int year = 1970;
            while (year < 2037 && daysBefore(year + 1, 1) <= days) {
                year++;
            }
            int month = 1;
            while (month < 12 && daysBefore(year, month + 1) <= days) {
                month++;
            }
            putDigits(year / 100);
            putDigits(year % 100);
            putDigits(month);
            putDigits(days - daysBefore(year, month) + 1);
            putDigits(rest / 3600);
            putDigits(rest / 60 % 60);
            putDigits(rest % 60);
            put('Z');
            close(mark);
        }

        private void putDigits(int two) {
            put('0' + two / 10 % 10);
            put('0' + two % 10);
        }

        void putErrorHead(int now, int code) {
            putNumber(0, 5);
            putNumber(1, 30);
            putTime(4, now);
            putNumber(5, 0);
            putNumber(6, code);
        }

        /** Days from the beginning of 1970 to a month's; each fourth year of these is a leap year. */
        private static int daysBefore(int year, int month) {
            int m = Math.max(1, Math.min(13, month));
            int leap = year % 4 == 0 && m > 2 ? 1 : 0;
            return (year - 1970) * 365 + (year - 1969) / 4 + MONTH_STARTS[m - 1] + leap;
        }

        boolean isText(int from, int to, String text) {
            if (to - from != text.length()) {
                return false;
            }
            for (int i = 0; i < text.length(); i++) {
                if (at(from + i) != text.charAt(i)) {
                    return false;
                }
            }
            return true;
        }

        boolean isPrintable(int from, int to) {
            for (int i = from; i < to; i++) {
                int sign = at(i);
                if (sign < 32 || sign > 126) {
                    return false;
                }
            }
            return true;
        }

        boolean sameAs(int from, int to, Bytes other, int start, int stop) {
            if (from < 0 || start < 0 || to > size || stop > other.size || to - from != stop - start) {
                return false;
            }
            for (int i = 0; i < to - from; i++) {
                if (row[from + i] != other.row[start + i]) {
                    return false;
                }
            }
            return true;
        }

        /** The place behind the value that begins at the place; -1 if that is not DER or goes beyond 'to'. */
        int stop(int place, int to) {
            if (place < 0 || to > size || to - place < 2) {
                return -1;
            }
            int length = row[place + 1] & 255;
            int start = place + 2;
            if (length >= 128) {
                int more = length - 128;
                if (more < 1 || more > 2 || more > to - start) {
                    return -1;
                }
                length = more == 1 ? row[start] & 255 : (row[start] & 255) * 256 + (row[start + 1] & 255);
                start += more;
                if (length < (more == 1 ? 128 : 256)) {
                    return -1;
                }
            }
            return length <= to - start ? start + length : -1;
        }

        /** Where the contents of a value begin that stop() has found good. */
        int body(int place) {
            if (place < 0 || place + 1 >= size) {
                return -1;
            }
            int length = row[place + 1] & 255;
            return length < 128 ? place + 2 : place + 2 + length - 128;
        }

        /** The place of a field's value in the SEQUENCE there (an application's number may stand before it), or -1. */
        int field(int place, int number) {
            int outer = place >= 0 && place < size ? row[place] & 0xE0 : 0;
            int sequence = outer == 0x60 ? body(place) : place;
            int stop = stop(sequence, size);
            int next = body(sequence);
            for (int k = 0; k < FIELDS_MOST && next >= 0 && next < stop; k++) {
                if ((row[next] & 255) == 0xA0 + number) {
                    return body(next);
                }
                next = stop(next, stop);
            }
            return -1;
        }

        /** The place of the row's element of that number, or -1. */
        int element(int place, int number) {
            int stop = stop(place, size);
            int next = body(place);
            for (int k = 0; k < ROW_MOST && next >= 0 && next < stop; k++) {
                if (k == number) {
                    return next;
                }
                next = stop(next, stop);
            }
            return -1;
        }

        long numberAt(int place) {
            int stop = stop(place, size);
            int start = body(place);
            return stop > start && start >= 0 ? number(start, stop) : 0;
        }

        private long number(int from, int to) {
            long value = row[from];
            for (int i = from + 1; i < to && i < size; i++) {
                value = value << 8 | row[i] & 255;
            }
            return value;
        }

        /** The first 32 bits there. */
        int bitsAt(int place) {
            int start = body(place);
            if (start < 0 || start + 5 > size) {
                return 0;
            }
            return (int) number(start + 1, start + 5);
        }

        /** Whether a bit is set beyond the first 32. */
        boolean hasFarBits(int place) {
            int stop = stop(place, size);
            int start = body(place);
            for (int i = start + 5; start >= 0 && i < stop; i++) {
                if (row[i] != 0) {
                    return true;
                }
            }
            return false;
        }

        /** The seconds of a time, -1 if it is missing. */
        int timeAt(int place) {
            if (place < 0) {
                return -1;
            }
            int start = body(place);
            int days = daysBefore(digits(start, 4), digits(start + 4, 2)) + digits(start + 6, 2) - 1;
            int minutes = digits(start + 8, 2) * 60 + digits(start + 10, 2);
            return days * 86400 + minutes * 60 + digits(start + 12, 2);
        }

        private int digits(int from, int count) {
            int value = 0;
            for (int i = from; i < from + count; i++) {
                int sign = at(i);
                if (sign < '0' || sign > '9') {
                    return -1;
                }
                value = value * 10 + sign - '0';
            }
            return value;
        }

        boolean isRealm(int place) {
            return place >= 0 && isText(body(place), stop(place, size), REALM);
        }

        /** Whether the name at the place has just these parts; name-types are of no matter. */
        boolean isNamed(int place, Bytes parts) {
            int strings = field(place, 1);
            return strings >= 0 && sameAs(body(strings), stop(strings, size), parts, 0, parts.size);
        }

        boolean sameParts(int place, Bytes other, int otherPlace) {
            int mine = field(place, 1);
            int its = other.field(otherPlace, 1);
            return mine >= 0 && its >= 0 && sameAs(mine, stop(mine, size), other, its, other.stop(its, other.size));
        }

        int partsSize(int place) {
            int strings = field(place, 1);
            return stop(strings, size) - body(strings);
        }

        /** Whether the bytes are one value of that kind, whole, with nothing behind. */
        boolean isA(int kind, int from, int to) {
            return fits(kind, from, to, 0);
        }

        private boolean fits(int kind, int from, int to, int depth) {
            if (depth > DEPTH_MOST || from < 0 || stop(from, to) != to) {
                return false;
            }
            int tag = row[from] & 255;
            int start = body(from);
            switch (kind) {
                case 'i':
                    return tag == 2 && isNumber(start, to, INT_LEAST, INT_MOST);
                case 'u':
                    return tag == 2 && isNumber(start, to, 0, UINT_MOST);
                case 'm':
                    return tag == 2 && isNumber(start, to, 0, MICRO_MOST);
                case 's':
                    return tag == GENERAL_STRING && isPrintable(start, to);
                case 't':
                    return tag == 0x18 && isTime(start, to);
                case 'b':
                    return tag == 3 && to - start >= 5 && row[start] == 0;
                case 'o':
                    return tag == OCTET_STRING;
                default:
                    return tag == tagOf(kind) && fitsInside(kind, start, to, depth);
            }
        }

        private boolean fitsInside(int kind, int from, int to, int depth) {
            if (kind >= 'A' && kind <= 'Z') {
                return fitsRow(kind - 'A' + 'a', from, to, depth);
            }
            if (tagOf(kind) == SEQUENCE) {
                return fitsFields(shapeOf(kind), from, to, depth);
            }
            return at(from) == SEQUENCE && stop(from, to) == to && fitsFields(shapeOf(kind), body(from), to, depth);
        }

        private boolean fitsRow(int kind, int from, int to, int depth) {
            int next = from;
            for (int k = 0; k < ROW_MOST && next < to; k++) {
                int stop = stop(next, to);
                if (stop < 0 || !fits(kind, next, stop, depth + 1)) {
                    return false;
                }
                next = stop;
            }
            return next == to;
        }

        private boolean fitsFields(String shape, int from, int to, int depth) {
            int next = from;
            for (int k = 0; k + 2 < shape.length(); k += 3) {
                int sign = shape.charAt(k);
                int number = sign <= '9' ? sign - '0' : sign - 'a' + 10;
                if (next < to && at(next) == 0xA0 + number) {
                    int stop = stop(next, to);
                    if (stop < 0 || !fits(shape.charAt(k + 2), body(next), stop, depth + 1)) {
                        return false;
                    }
                    next = stop;
                } else if (shape.charAt(k + 1) == '!') {
                    return false;
                }
            }
            return next == to;
        }

        private boolean isNumber(int from, int to, long least, long most) {
            if (from < 0 || to <= from || to - from > 5 || to > size) {
                return false;
            }
            if (to - from > 1 && (row[from] == 0 && row[from + 1] >= 0 || row[from] == -1 && row[from + 1] < 0)) {
                return false;
            }
            long value = number(from, to);
            return value >= least && value <= most;
        }

        private boolean isTime(int from, int to) {
            if (to - from != 15 || at(from + 14) != 'Z') {
                return false;
            }
            int year = digits(from, 4);
            int month = digits(from + 4, 2);
            int day = digits(from + 6, 2);
            int hour = digits(from + 8, 2);
            int minute = digits(from + 10, 2);
            int second = digits(from + 12, 2);
            return year >= 1970 && year <= 2037 && month >= 1 && month <= 12
                && day >= 1 && day <= daysBefore(year, month + 1) - daysBefore(year, month)
                && hour >= 0 && hour <= 23 && minute >= 0 && minute <= 59 && second >= 0 && second <= 59;
        }

        private static int tagOf(int kind) {
            return kind >= 256 ? kind - 256 : kind == 'k' ? 0x61 : SEQUENCE;
        }

        /**
         * Each field's number, whether it must (!) or may (?) be there, and its kind: i Int32, u UInt32,
         * m Microseconds, s KerberosString, t KerberosTime, b flags, o OCTET STRING; the other small letters
         * stand here, and a capital letter is a row of what the small one is.
         */
        private static String shapeOf(int kind) {
            switch (kind) {
                case 'n': // PrincipalName
                    return "0!i1!S";
                case 'a': // PA-DATA
                    return "1!i2!o";
                case 'l': // an entry of LastReq
                    return "0!i1!t";
                case 'p': // EncryptionKey, Checksum, HostAddress, TransitedEncoding, an entry of AuthorizationData
                    return "0!i1!o";
                case ENCRYPTED:
                    return "0!i1?u2!o";
                case SHOWN_AHEAD:
                    return "0!t1?m";
                case 'q': // KDC-REQ-BODY
                    return "0!b1?n2!s3?n4?t5!t6?t7!u8!I9?Pa?eb?K";
                case 'f': // KRB-SAFE-BODY
                case PRIV_PART:
                    return "0!o1?t2?m3?u4!p5?p";
                case 'c': // KrbCredInfo
                    return "0!p1?s2?n3?b4?t5?t6?t7?t8?s9?na?P";
                case 'k': // Ticket
                    return "0!i1!s2!n3!e";
                default:
                    return messageShape(kind);
            }
        }

        private static String messageShape(int kind) {
            switch (kind) {
                case AS_REQ:
                case TGS_REQ:
                    return "1!i2!i3?A4!q";
                case AS_REP:
                case TGS_REP:
                    return "0!i1!i2?A3!s4!n5!k6!e";
                case AP_REQ:
                    return "0!i1!i2!b3!k4!e";
                case AP_REP:
                    return "0!i1!i2!e";
                case KRB_SAFE:
                    return "0!i1!i2!f3!p";
                case KRB_PRIV:
                    return "0!i1!i3!e";
                case KRB_CRED:
                    return "0!i1!i2!K3!e";
                case AUTHENTICATOR:
                    return "0!i1!s2!n3?p4!m5!t6?p7?u8?P";
                case TICKET_PART:
                    return "0!b1!p2!s3!n4!p5!t6?t7!t8?t9?Pa?P";
                case AS_REP_PART:
                case TGS_REP_PART:
                    return "0!p1!L2!u3?t4!b5!t6?t7!t8?t9!sa!nb?P";
                case AP_REP_PART:
                    return "0!t1!m2?p3?u";
                case CRED_PART:
                    return "0!C1?u2?t3?m4?p5?p";
                case KRB_ERROR:
                    return "0!i1!i2?t3?m4!t5!m6!i7?s8?n9!sa!nb?sc?o";
                default:
                    return "";
            }
        }
    }

    /** SHA-1 under HMAC: a key, then as often as wanted begin, add, finish. */
    private static final class Hash {
        private static final int BLOCK = 64;

        private final int[] words = new int[80];
        private final byte[] block = new byte[BLOCK];
        private final int[] state = new int[5];
        /** The states behind the key's two pads, kept because a password's key takes hundreds of turns. */
        private final int[] inner = new int[5];
        private final int[] outer = new int[5];
        private int filled;
        private int total;
        final byte[] mac = new byte[20];

        void setKey(byte[] key, int start, int count) {
            pad(key, start, count, 0x36);
            System.arraycopy(state, 0, inner, 0, 5);
            pad(key, start, count, 0x5C);
            System.arraycopy(state, 0, outer, 0, 5);
        }

        private void pad(byte[] key, int start, int count, int mask) {
            for (int i = 0; i < BLOCK; i++) {
                boolean within = i < count && start >= 0 && start + i < key.length;
                block[i] = (byte) (within ? key[start + i] ^ mask : mask);
            }
            state[0] = 0x67452301;
            state[1] = 0xEFCDAB89;
            state[2] = 0x98BADCFE;
            state[3] = 0x10325476;
            state[4] = 0xC3D2E1F0;
            compress();
        }

        void begin() {
            System.arraycopy(inner, 0, state, 0, 5);
            filled = 0;
            total = BLOCK;
        }

        void add(byte[] from, int start, int count) {
            if (start < 0 || count < 0 || count > from.length - start) {
                return;
            }
            for (int i = start; i < start + count; i++) {
                block[filled] = from[i];
                filled++;
                if (filled == BLOCK) {
                    compress();
                    filled = 0;
                }
            }
            total += count;
        }

        void finish() {
            close();
            System.arraycopy(outer, 0, state, 0, 5);
            System.arraycopy(mac, 0, block, 0, 20);
            filled = 20;
            total = BLOCK + 20;
            close();
        }

        private void close() {
            block[filled] = (byte) 128;
            for (int i = filled + 1; i < BLOCK; i++) {
                block[i] = 0;
            }
            if (filled >= BLOCK - 8) {
                compress();
                for (int i = 0; i < BLOCK; i++) {
                    block[i] = 0;
                }
            }
            int bits = total * 8;
            for (int i = 0; i < 4; i++) {
                block[BLOCK - 1 - i] = (byte) (bits >> (8 * i));
            }
            compress();
            for (int i = 0; i < 20; i++) {
                mac[i] = (byte) (state[i / 4] >> (24 - i % 4 * 8));
            }
        }

        private void compress() {
            for (int i = 0; i < 16; i++) {
                words[i] = block[4 * i] << 24 | (block[4 * i + 1] & 255) << 16
                    | (block[4 * i + 2] & 255) << 8 | block[4 * i + 3] & 255;
            }
            for (int i = 16; i < 80; i++) {
                int w = words[i - 3] ^ words[i - 8] ^ words[i - 14] ^ words[i - 16];
                words[i] = w << 1 | w >>> 31;
            }
            int a = state[0];
            int b = state[1];
            int c = state[2];
            int d = state[3];
            int e = state[4];
            for (int i = 0; i < 80; i++) {
                int f;
                if (i < 20) {
                    f = (b & c | ~b & d) + 0x5A827999;
                } else if (i < 40) {
                    f = (b ^ c ^ d) + 0x6ED9EBA1;
                } else if (i < 60) {
                    f = (b & c | b & d | c & d) + 0x8F1BBCDC;
                } else {
                    f = (b ^ c ^ d) + 0xCA62C1D6;
                }
                int turn = (a << 5 | a >>> 27) + f + e + words[i];
                e = d;
                d = c;
                c = b << 30 | b >>> 2;
                b = a;
                a = turn;
            }
            state[0] += a;
            state[1] += b;
            state[2] += c;
            state[3] += d;
            state[4] += e;
        }
    }

    /** AES with a key of 16 or 32 bytes, and ciphertext stealing (CBC, the last two blocks changed over). */
    private static final class Aes {
        private static final int[] BOX = {
            0x63, 0x7C, 0x77, 0x7B, 0xF2, 0x6B, 0x6F, 0xC5, 0x30, 0x01, 0x67, 0x2B, 0xFE, 0xD7, 0xAB, 0x76,
            0xCA, 0x82, 0xC9, 0x7D, 0xFA, 0x59, 0x47, 0xF0, 0xAD, 0xD4, 0xA2, 0xAF, 0x9C, 0xA4, 0x72, 0xC0,
            0xB7, 0xFD, 0x93, 0x26, 0x36, 0x3F, 0xF7, 0xCC, 0x34, 0xA5, 0xE5, 0xF1, 0x71, 0xD8, 0x31, 0x15,
            0x04, 0xC7, 0x23, 0xC3, 0x18, 0x96, 0x05, 0x9A, 0x07, 0x12, 0x80, 0xE2, 0xEB, 0x27, 0xB2, 0x75,
            0x09, 0x83, 0x2C, 0x1A, 0x1B, 0x6E, 0x5A, 0xA0, 0x52, 0x3B, 0xD6, 0xB3, 0x29, 0xE3, 0x2F, 0x84,
            0x53, 0xD1, 0x00, 0xED, 0x20, 0xFC, 0xB1, 0x5B, 0x6A, 0xCB, 0xBE, 0x39, 0x4A, 0x4C, 0x58, 0xCF,
            0xD0, 0xEF, 0xAA, 0xFB, 0x43, 0x4D, 0x33, 0x85, 0x45, 0xF9, 0x02, 0x7F, 0x50, 0x3C, 0x9F, 0xA8,
            0x51, 0xA3, 0x40, 0x8F, 0x92, 0x9D, 0x38, 0xF5, 0xBC, 0xB6, 0xDA, 0x21, 0x10, 0xFF, 0xF3, 0xD2,
            0xCD, 0x0C, 0x13, 0xEC, 0x5F, 0x97, 0x44, 0x17, 0xC4, 0xA7, 0x7E, 0x3D, 0x64, 0x5D, 0x19, 0x73,
            0x60, 0x81, 0x4F, 0xDC, 0x22, 0x2A, 0x90, 0x88, 0x46, 0xEE, 0xB8, 0x14, 0xDE, 0x5E, 0x0B, 0xDB,
            0xE0, 0x32, 0x3A, 0x0A, 0x49, 0x06, 0x24, 0x5C, 0xC2, 0xD3, 0xAC, 0x62, 0x91, 0x95, 0xE4, 0x79,
            0xE7, 0xC8, 0x37, 0x6D, 0x8D, 0xD5, 0x4E, 0xA9, 0x6C, 0x56, 0xF4, 0xEA, 0x65, 0x7A, 0xAE, 0x08,
            0xBA, 0x78, 0x25, 0x2E, 0x1C, 0xA6, 0xB4, 0xC6, 0xE8, 0xDD, 0x74, 0x1F, 0x4B, 0xBD, 0x8B, 0x8A,
            0x70, 0x3E, 0xB5, 0x66, 0x48, 0x03, 0xF6, 0x0E, 0x61, 0x35, 0x57, 0xB9, 0x86, 0xC1, 0x1D, 0x9E,
            0xE1, 0xF8, 0x98, 0x11, 0x69, 0xD9, 0x8E, 0x94, 0x9B, 0x1E, 0x87, 0xE9, 0xCE, 0x55, 0x28, 0xDF,
            0x8C, 0xA1, 0x89, 0x0D, 0xBF, 0xE6, 0x42, 0x68, 0x41, 0x99, 0x2D, 0x0F, 0xB0, 0x54, 0xBB, 0x16
        };

        private final int[] unbox = new int[256];
        /** Each byte times x in the field of AES. */
        private final int[] twice = new int[256];
        private final int[] keys = new int[240];
        private int rounds;
        private final int[] state = new int[16];
        private final int[] moved = new int[16];
        private final byte[] kept = new byte[16];

        Aes() {
            for (int i = 0; i < 256; i++) {
                unbox[BOX[i]] = i;
                twice[i] = i << 1 ^ (i >> 7) * 0x11B;
            }
        }

        void setKey(byte[] key, int count) {
            int length = count == 32 && key.length >= 32 ? 32 : 16;
            rounds = length / 4 + 6;
            for (int i = 0; i < length; i++) {
                keys[i] = i < key.length ? key[i] & 255 : 0;
            }
            int turn = 1;
            for (int i = length; i < 16 * (rounds + 1); i += 4) {
                int a = keys[i - 4];
                int b = keys[i - 3];
                int c = keys[i - 2];
                int d = keys[i - 1];
                if (i % length == 0) {
                    int first = a;
                    a = BOX[b] ^ turn;
                    b = BOX[c];
                    c = BOX[d];
                    d = BOX[first];
                    turn = twice[turn];
                } else if (length == 32 && i % length == 16) {
                    a = BOX[a];
                    b = BOX[b];
                    c = BOX[c];
                    d = BOX[d];
                }
                keys[i] = keys[i - length] ^ a;
                keys[i + 1] = keys[i + 1 - length] ^ b;
                keys[i + 2] = keys[i + 2 - length] ^ c;
                keys[i + 3] = keys[i + 3 - length] ^ d;
            }
        }

        void encrypt(byte[] row, int from) {
            if (from < 0 || from > row.length - 16) {
                return;
            }
            for (int i = 0; i < 16; i++) {
                state[i] = row[from + i] & 255 ^ keys[i];
            }
            for (int round = 1; round <= rounds; round++) {
                for (int i = 0; i < 16; i++) {
                    moved[i] = BOX[state[(i + 4 * (i & 3)) & 15]];
                }
                if (round < rounds) {
                    mix();
                }
                for (int i = 0; i < 16; i++) {
                    state[i] = moved[i] ^ keys[16 * round + i];
                }
            }
            for (int i = 0; i < 16; i++) {
                row[from + i] = (byte) state[i];
            }
        }

        void decrypt(byte[] row, int from) {
            if (from < 0 || from > row.length - 16) {
                return;
            }
            for (int i = 0; i < 16; i++) {
                state[i] = row[from + i] & 255 ^ keys[16 * rounds + i];
            }
            for (int round = rounds - 1; round >= 0; round--) {
                for (int i = 0; i < 16; i++) {
                    moved[i] = unbox[state[(i - 4 * (i & 3)) & 15]] ^ keys[16 * round + i];
                }
                if (round > 0) {
                    prepare();
                    mix();
                }
                System.arraycopy(moved, 0, state, 0, 16);
            }
            for (int i = 0; i < 16; i++) {
                row[from + i] = (byte) state[i];
            }
        }

        private void mix() {
            for (int i = 0; i < 16; i += 4) {
                int a = moved[i];
                int b = moved[i + 1];
                int c = moved[i + 2];
                int d = moved[i + 3];
                int all = a ^ b ^ c ^ d;
                moved[i] = a ^ all ^ twice[a ^ b];
                moved[i + 1] = b ^ all ^ twice[b ^ c];
                moved[i + 2] = c ^ all ^ twice[c ^ d];
                moved[i + 3] = d ^ all ^ twice[d ^ a];
            }
        }

        /** The mixing's inverse is this, then the mixing. */
        private void prepare() {
            for (int i = 0; i < 16; i += 4) {
                int even = twice[twice[moved[i] ^ moved[i + 2]]];
                int odd = twice[twice[moved[i + 1] ^ moved[i + 3]]];
                moved[i] ^= even;
                moved[i + 1] ^= odd;
                moved[i + 2] ^= even;
                moved[i + 3] ^= odd;
            }
        }

        /** In place, of at least 16 bytes; the row has room for a whole last block. */
        void lock(byte[] row, int from, int count) {
            int blocks = (count + 15) / 16;
            if (from < 0 || count < 16 || 16 * blocks > row.length - from) {
                return;
            }
            for (int i = from + count; i < from + 16 * blocks; i++) {
                row[i] = 0;
            }
            encrypt(row, from);
            for (int i = from + 16; i < from + 16 * blocks; i += 16) {
                mask(row, i, 16);
                encrypt(row, i);
            }
            if (blocks > 1) {
                int last = from + 16 * (blocks - 1);
                System.arraycopy(row, last - 16, kept, 0, 16);
                System.arraycopy(row, last, row, last - 16, 16);
                System.arraycopy(kept, 0, row, last, 16);
            }
        }

        void unlock(byte[] row, int from, int count) {
            int blocks = (count + 15) / 16;
            if (from < 0 || count < 16 || 16 * blocks > row.length - from) {
                return;
            }
            int last = from + 16 * (blocks - 1);
            if (blocks > 1) {
                int tail = from + count - last;
                decrypt(row, last - 16);
                System.arraycopy(row, last - 16, kept, 0, 16);
                System.arraycopy(row, last, row, last - 16, tail);
                System.arraycopy(kept, 0, row, last, 16);
                mask(row, last, tail);
            }
            for (int i = Math.max(from, last - 16); i > from; i -= 16) {
                decrypt(row, i);
                mask(row, i, 16);
            }
            decrypt(row, from);
        }

        /** The bytes xor those one block before them. */
        private static void mask(byte[] row, int from, int count) {
            for (int i = from; i < from + count; i++) {
                row[i] ^= row[i - 16];
            }
        }
    }

    /** What all of the house share: the CLOCK, the COINS, the ciphers, and rows for what is being written. */
    private static final class Vault {
        private static final int TEXT_MOST = 6144;
        private static final int DRAFT_MOST = 512;
        private static final int BLOCK = 16;
        private static final int MAC = 12;
        private static final int FOR_SEALING = 0xAA;
        private static final int FOR_MAC = 0x55;
        private static final int FOR_CHECKSUM = 0x99;
        /** 'kerberos' folded to 16 bytes (RFC 3961). */
        private static final byte[] KERBEROS = {
            107, 101, 114, 98, 101, 114, 111, 115, 123, -101, 91, 43, -109, 19, 43, -109
        };

        int now = 1000000000;
        final Bytes text = new Bytes(TEXT_MOST);
        /** A request's body, which is summed before it has its place. */
        final Bytes draft = new Bytes(DRAFT_MOST);
        final Hash hash = new Hash();
        private final Aes aes = new Aes();
        private final byte[] seed = new byte[SEED_MOST];
        private int seedSize;
        private final byte[] coins = new byte[20];
        private int coinAt = 20;
        private int coinRow;
        private final byte[] derived = new byte[32];
        private final byte[] turned = new byte[20];
        private final Bytes brief = new Bytes(SEED_MOST);

        static int typeOf(byte[] key) {
            return key.length == 32 ? 18 : 17;
        }

        /** The EncryptionKey there; none if it is not of type 17 or 18 and as long. */
        static byte[] keyAt(Bytes from, int place) {
            int octets = from.field(place, 1);
            long type = from.numberAt(from.field(place, 0));
            int length = type == 18 ? 32 : 16;
            int start = from.body(octets);
            if (octets < 0 || type != 17 && type != 18 || from.stop(octets, from.size) - start != length) {
                return NO_KEY;
            }
            byte[] key = new byte[length];
            System.arraycopy(from.row, start, key, 0, length);
            return key;
        }

        void sow(Bytes from) {
            seedSize = Math.min(SEED_MOST, from.size);
            System.arraycopy(from.row, 0, seed, 0, seedSize);
            coinAt = 20;
            coinRow = 0;
        }

        int coin() {
            if (coinAt >= 20) {
                brief.clear();
                brief.putWord(coinRow);
                hash.setKey(seed, 0, seedSize);
                hash.begin();
                hash.add(brief.row, 0, 4);
                hash.finish();
                System.arraycopy(hash.mac, 0, coins, 0, 20);
                coinAt = 0;
                coinRow++;
            }
            int coin = coins[coinAt] & 255;
            coinAt++;
            return coin;
        }

        int freshNumber() {
            int number = 0;
            for (int k = 0; k < 4; k++) {
                number = number << 8 | coin();
            }
            return number;
        }

        byte[] freshKey(int type) {
            byte[] key = new byte[type == 18 ? 32 : 16];
            for (int k = 0; k < key.length; k++) {
                key[k] = (byte) coin();
            }
            return key;
        }

        static void putSalt(Bytes to, Bytes name) {
            to.putLetters(REALM);
            int next = 0;
            for (int k = 0; k < 2 && next < name.size; k++) {
                int start = name.body(next);
                int stop = name.stop(next, name.size);
                to.append(name.row, start, stop - start);
                next = stop;
            }
        }

        /** The key of the password from the start on. */
        byte[] passwordKey(int type, Bytes name, Bytes from, int start, int rounds) {
            byte[] key = new byte[type == 18 ? 32 : 16];
            brief.clear();
            putSalt(brief, name);
            int length = brief.size;
            hash.setKey(from.row, start, from.size - start);
            for (int done = 0; done < key.length; done += 20) {
                brief.size = length;
                brief.putWord(done / 20 + 1);
                stretch(rounds);
                System.arraycopy(turned, 0, key, done, Math.min(20, key.length - done));
            }
            aes.setKey(key, key.length);
            System.arraycopy(KERBEROS, 0, key, 0, BLOCK);
            chain(key, key.length);
            return key;
        }

        /** One block of PBKDF2, from the salt with its number. */
        private void stretch(int rounds) {
            hash.begin();
            hash.add(brief.row, 0, brief.size);
            hash.finish();
            System.arraycopy(hash.mac, 0, turned, 0, 20);
            for (int k = 1; k < rounds && k < ROUNDS_MOST; k++) {
                hash.begin();
                hash.add(hash.mac, 0, 20);
                hash.finish();
                for (int i = 0; i < 20; i++) {
                    turned[i] ^= hash.mac[i];
                }
            }
        }

        /** The folded constant in the first block becomes a key. */
        private void chain(byte[] key, int length) {
            aes.encrypt(key, 0);
            if (length == 32 && key.length >= 32) {
                System.arraycopy(key, 0, key, BLOCK, BLOCK);
                aes.encrypt(key, BLOCK);
            }
        }

        private void derive(byte[] key, int usage, int purpose) {
            fold(usage, purpose);
            aes.setKey(key, key.length);
            chain(derived, key.length);
        }

        /** RFC 3961's n-fold of the usage's four bytes and the purpose's one, to 16 bytes. */
        private void fold(int usage, int purpose) {
            long constant = (long) usage << 8 | purpose;
            for (int i = 0; i < BLOCK; i++) {
                derived[i] = 0;
            }
            int sum = 0;
            for (int i = 5 * BLOCK - 1; i >= 0; i--) {
                int right = (i / 5 * 13 + 8 * (4 - i % 5)) % 40;
                long shifted = constant >>> right | constant << (40 - right);
                sum += (int) (shifted & 255) + (derived[i % BLOCK] & 255);
                derived[i % BLOCK] = (byte) sum;
                sum >>= 8;
            }
            for (int i = BLOCK - 1; i >= 0 && sum > 0; i--) {
                sum += derived[i] & 255;
                derived[i] = (byte) sum;
                sum >>= 8;
            }
        }

        /** EncryptedData of the text (a kvno of 0 is left out). */
        void putSealed(Bytes to, byte[] key, int usage, int kvno) {
            int whole = to.open(SEQUENCE);
            to.putNumber(0, typeOf(key));
            if (kvno > 0) {
                to.putNumber(1, kvno);
            }
            int field = to.openField(2);
            int octets = to.open(OCTET_STRING);
            int start = to.size;
            for (int k = 0; k < BLOCK; k++) {
                to.put(coin());
            }
            to.append(text.row, 0, text.size);
            derive(key, usage, FOR_MAC);
            hash.setKey(derived, 0, key.length);
            digest(to, start, to.size);
            derive(key, usage, FOR_SEALING);
            aes.setKey(derived, key.length);
            aes.lock(to.row, start, to.size - start);
            to.append(hash.mac, 0, MAC);
            to.close(octets);
            to.close(field);
            to.close(whole);
        }

        /** Whether the key opens the EncryptedData there; what was in it is 'to' then. */
        boolean opens(Bytes from, int place, byte[] key, int usage, Bytes to) {
            int octets = from.field(place, 2);
            int start = from.body(octets);
            int count = from.stop(octets, from.size) - start - MAC;
            if (octets < 0 || count < BLOCK || key.length == 0
                || from.numberAt(from.field(place, 0)) != typeOf(key)) {
                return false;
            }
            to.clear();
            to.append(from.row, start, count);
            derive(key, usage, FOR_SEALING);
            aes.setKey(derived, key.length);
            aes.unlock(to.row, 0, to.size);
            derive(key, usage, FOR_MAC);
            hash.setKey(derived, 0, key.length);
            digest(to, 0, to.size);
            to.skip(BLOCK);
            return isMac(from, start + count);
        }

        /** The checksum of the bytes comes to the hash's mac. */
        void sum(byte[] key, int usage, Bytes from, int start, int stop) {
            derive(key, usage, FOR_CHECKSUM);
            hash.setKey(derived, 0, key.length);
            digest(from, start, stop);
        }

        /** The types of checksums are two below those of the keys. */
        void putSum(Bytes to, byte[] key) {
            to.putPair(3, typeOf(key) - 2, hash.mac, MAC);
        }

        static boolean isSumFor(byte[] key, Bytes from, int place) {
            return from.numberAt(from.field(place, 0)) == typeOf(key) - 2;
        }

        boolean isSum(Bytes from, int place) {
            int octets = from.field(place, 1);
            int start = from.body(octets);
            return octets >= 0 && from.stop(octets, from.size) - start == MAC && isMac(from, start);
        }

        private void digest(Bytes from, int start, int stop) {
            hash.begin();
            hash.add(from.row, start, stop - start);
            hash.finish();
        }

        private boolean isMac(Bytes from, int start) {
            for (int i = 0; i < MAC; i++) {
                if (from.at(start + i) != (hash.mac[i] & 255)) {
                    return false;
                }
            }
            return true;
        }
    }

    /** The authenticators that one has seen: a name's parts, ctime and cusec of each. */
    private static final class Seen {
        private final byte[] names = new byte[ROOM_MOST * PARTS_MOST];
        private final int[] nameSizes = new int[ROOM_MOST];
        private final int[] times = new int[ROOM_MOST];
        private final int[] micros = new int[ROOM_MOST];
        private int count;

        void forget(int now) {
            int kept = 0;
            for (int k = 0; k < count; k++) {
                if (times[k] >= now - SKEW) {
                    System.arraycopy(names, k * PARTS_MOST, names, kept * PARTS_MOST, PARTS_MOST);
                    nameSizes[kept] = nameSizes[k];
                    times[kept] = times[k];
                    micros[kept] = micros[k];
                    kept++;
                }
            }
            count = kept;
        }

        boolean has(Bytes from, int start, int stop, int time, int micro) {
            for (int k = 0; k < count; k++) {
                if (times[k] == time && micros[k] == micro && isName(k, from, start, stop)) {
                    return true;
                }
            }
            return false;
        }

        private boolean isName(int k, Bytes from, int start, int stop) {
            if (nameSizes[k] != stop - start) {
                return false;
            }
            for (int i = 0; i < nameSizes[k]; i++) {
                if ((names[k * PARTS_MOST + i] & 255) != from.at(start + i)) {
                    return false;
                }
            }
            return true;
        }

        /** Whether there was room for it. */
        boolean keep(Bytes from, int start, int stop, int time, int micro, int most) {
            if (count >= most || count >= ROOM_MOST || stop - start > PARTS_MOST) {
                return false;
            }
            for (int i = 0; i < stop - start; i++) {
                names[count * PARTS_MOST + i] = (byte) from.at(start + i);
            }
            nameSizes[count] = stop - start;
            times[count] = time;
            micros[count] = micro;
            count++;
            return true;
        }
    }

    private static final class Principal {
        private static final int[] RULE_LEAST = {1, 1, 0, 0};
        private static final int[] RULE_MOST = {1000000, 10000000, FLAG_MOST, CLOCK_MOST};

        final Bytes name = new Bytes(PARTS_MOST);
        final Seen seen = new Seen();
        boolean there;
        int version;
        int rounds;
        private byte[] latest18 = NO_KEY;
        private byte[] latest17 = NO_KEY;
        private byte[] older18 = NO_KEY;
        private byte[] older17 = NO_KEY;
        int life = 36000;
        int renewal = 72000;
        int flags = MUST_SHOW | MAY_FORWARD | MAY_PROXY | MAY_RENEW;
        int expiry;

        static int findParts(Principal[] all, Bytes parts) {
            for (int p = 0; p < all.length; p++) {
                if (all[p].there && parts.sameAs(0, parts.size, all[p].name, 0, all[p].name.size)) {
                    return p;
                }
            }
            return -1;
        }

        static int findNamed(Principal[] all, Bytes from, int place) {
            for (int p = 0; p < all.length; p++) {
                if (all[p].there && from.isNamed(place, all[p].name)) {
                    return p;
                }
            }
            return -1;
        }

        void begin(Bytes parts) {
            name.copyOf(parts);
            there = true;
        }

        /** A new VERSION of keys, of the password from the start on. */
        void rekey(Vault vault, Bytes from, int start, int count) {
            older18 = latest18;
            older17 = latest17;
            latest18 = vault.passwordKey(18, name, from, start, count);
            latest17 = vault.passwordKey(17, name, from, start, count);
            rounds = count;
            version++;
        }

        boolean rule(int what, int value) {
            if (what < 0 || what > 3 || value < RULE_LEAST[what] || value > RULE_MOST[what]) {
                return false;
            }
            switch (what) {
                case 0:
                    life = value;
                    break;
                case 1:
                    renewal = value;
                    break;
                case 2:
                    flags = value;
                    break;
                default:
                    expiry = value;
                    break;
            }
            return true;
        }

        boolean is(int flag) {
            return (flags & flag) != 0;
        }

        boolean isOver(int now) {
            return expiry > 0 && now >= expiry;
        }

        boolean canOpen(long kvno) {
            return kvno >= 1 && (kvno == version || kvno == version - 1);
        }

        byte[] latestKey(long type) {
            return type == 18 ? latest18 : latest17;
        }

        /** The key that opens, of a VERSION that can. */
        byte[] keyOf(long kvno, long type) {
            if (kvno == version) {
                return latestKey(type);
            }
            return type == 18 ? older18 : older17;
        }
    }

    /** A ticket in a WALLET, as it came, and what was told of it. */
    private static final class Ticket {
        Bytes raw = new Bytes(0);
        final Bytes name = new Bytes(PARTS_MOST);
        int nameType;
        boolean there;
        byte[] key = NO_KEY;
        private int flags;
        private int authTime;
        private int startTime;
        private int endTime;
        private int renewTill;

        int tell(int what) {
            switch (what) {
                case 0:
                    return flags;
                case 1:
                    return authTime;
                case 2:
                    return startTime;
                case 3:
                    return endTime;
                case 4:
                    return renewTill;
                case 5:
                    return Vault.typeOf(key);
                default:
                    return -1;
            }
        }

        void setName(Bytes from, int place) {
            int strings = from.field(place, 1);
            int start = from.body(strings);
            nameType = (int) from.numberAt(from.field(place, 0));
            name.clear();
            name.append(from.row, start, from.stop(strings, from.size) - start);
        }

        /** The row grows only when it must: most tickets are far shorter than the TAPE. */
        void setRaw(Bytes from, int place) {
            int count = from.stop(place, from.size) - place;
            if (count > raw.row.length) {
                raw = new Bytes(count);
            }
            raw.clear();
            raw.append(from.row, place, count);
        }

        /** The key, and flags and times from a field on: EncKDCRepPart and KrbCredInfo have the same order. */
        void setTold(byte[] told, Bytes from, int place, int first) {
            key = told;
            flags = from.bitsAt(from.field(place, first));
            authTime = from.timeAt(from.field(place, first + 1));
            startTime = from.timeAt(from.field(place, first + 2));
            endTime = from.timeAt(from.field(place, first + 3));
            renewTill = from.timeAt(from.field(place, first + 4));
            there = true;
        }

        /** KrbCredInfo. */
        void putInfo(Bytes to) {
            int info = to.open(SEQUENCE);
            to.putKey(0, key);
            to.putRealm(1);
            to.putName(2, nameType, name);
            to.putBits(3, flags);
            to.putTime(4, authTime);
            if (startTime >= 0) {
                to.putTime(5, startTime);
            }
            to.putTime(6, endTime);
            if (renewTill >= 0) {
                to.putTime(7, renewTill);
            }
            to.putRealm(8);
            to.putCopy(9, raw, raw.field(0, 2));
            to.close(info);
        }
    }

    /** One that asks the centre and goes to services. */
    private static final class Agent {
        private static final int WALLET = 8;
        private static final int TIME_MOST = 2100000000;
        private static final int TILL_MOST = 2145916799;
        private static final int MICROS = 1000000;
        private static final int ERROR_MOST = 1000;

        private final Vault vault;
        final Ticket[] wallet;
        boolean there;
        int ahead;
        private final Bytes name = new Bytes(PARTS_MOST);
        private byte[] key18 = NO_KEY;
        private byte[] key17 = NO_KEY;
        private int made;

        /** The latest request; a kind of -1 when no reply is due. */
        private int askedKind;
        private int nonce;
        private boolean renews;
        private int etypes;
        private final Bytes client = new Bytes(PARTS_MOST);
        private final Bytes service = new Bytes(PARTS_MOST);
        private byte[] subkey = NO_KEY;

        /** The latest AP-REQ; a number of -1 when there is none. */
        int shownTime;
        int shownMicro;
        long shownNumber;
        byte[] shownKey = NO_KEY;
        long otherNumber;
        private boolean awaits;

        Agent(Vault vault) {
            this.vault = vault;
            wallet = new Ticket[WALLET];
            for (int w = 0; w < WALLET; w++) {
                wallet[w] = new Ticket();
            }
        }

        void begin(Bytes parts, Bytes from, int start, int rounds) {
            name.copyOf(parts);
            key18 = vault.passwordKey(18, name, from, start, rounds);
            key17 = vault.passwordKey(17, name, from, start, rounds);
            for (int w = 0; w < WALLET; w++) {
                wallet[w].there = false;
            }
            there = true;
            ahead = 0;
            made = 0;
            askedKind = -1;
            shownNumber = -1;
            otherNumber = 0;
            awaits = false;
        }

        int time() {
            return Math.max(0, Math.min(TIME_MOST, vault.now + ahead));
        }

        boolean has(int w) {
            return w >= 0 && w < WALLET && wallet[w].there;
        }

        private int freePlace() {
            int w = 0;
            while (w < WALLET && wallet[w].there) {
                w++;
            }
            return w < WALLET ? w : -2;
        }

        private boolean isAsked(long type) {
            return type == 17 && etypes != 2 || type == 18 && etypes != 1;
        }

        private byte[] keyOf(long type) {
            return type == 18 ? key18 : key17;
        }

        /**
         * A name and a key are kept of the ticket itself: it may be dropped before the reply comes. Only TGS knows
         * renew: a ticket of AS was never renewed, whatever its request asked for.
         */
        void keepAsked(int kind, int w, int options, int types, Bytes parts) {
            boolean proves = kind == 2 && has(w);
            askedKind = kind;
            renews = proves && (options & RENEW) != 0;
            etypes = types;
            service.copyOf(parts);
            client.copyOf(proves ? wallet[w].name : name);
            nonce = vault.freshNumber() & 0x7FFFFFFF;
            subkey = proves ? vault.freshKey(Vault.typeOf(wallet[w].key)) : NO_KEY;
        }

        /** KDC-REQ-BODY, in the draft. */
        void putBody(int options, int life, int renew) {
            Bytes to = vault.draft;
            to.clear();
            int whole = to.open(SEQUENCE);
            to.putBits(0, options);
            if (askedKind != 2) {
                to.putName(1, 1, name);
            }
            to.putRealm(2);
            to.putName(3, 2, service);
            to.putTime(5, life == 0 ? 0 : Math.min(TILL_MOST, time() + life));
            if (renew > 0) {
                to.putTime(6, Math.min(TILL_MOST, time() + renew));
            }
            to.putNumber(7, nonce);
            int field = to.openField(8);
            int row = to.open(SEQUENCE);
            int first = etypes == 1 || etypes == 3 ? 17 : 18;
            to.putInteger(first);
            if (etypes > 2) {
                to.putInteger(35 - first);
            }
            to.close(row);
            to.close(field);
            to.close(whole);
        }

        void putRequest(int w, Bytes to) {
            int type = askedKind == 2 ? 12 : 10;
            to.clear();
            int whole = to.open(0x60 + type);
            int row = to.open(SEQUENCE);
            to.putNumber(1, 5);
            to.putNumber(2, type);
            if (askedKind > 0) {
                int field = to.openField(3);
                int list = to.open(SEQUENCE);
                int entry = to.open(SEQUENCE);
                to.putNumber(1, 3 - askedKind);
                int value = to.openField(2);
                int octets = to.open(OCTET_STRING);
                if (askedKind == 1) {
                    putShown(to);
                } else if (has(w)) {
                    putAuthenticator(wallet[w], subkey, vault.draft, -1);
                    putApReq(wallet[w], 0, USAGE_TGS_PROOF, to);
                }
                to.close(octets);
                to.close(value);
                to.close(entry);
                to.close(list);
                to.close(field);
            }
            to.putCopy(4, vault.draft, 0);
            to.close(row);
            to.close(whole);
        }

        /** EncryptedData of PA-ENC-TS-ENC. */
        private void putShown(Bytes to) {
            Bytes text = vault.text;
            text.clear();
            int whole = text.open(SEQUENCE);
            text.putTime(0, time());
            text.putNumber(1, made % MICROS);
            text.close(whole);
            made++;
            vault.putSealed(to, keyOf(etypes == 1 || etypes == 3 ? 17 : 18), USAGE_SHOWN, 0);
        }

        /** The authenticator, in the text; a sum, a subkey and a number only if there is something of theirs. */
        private void putAuthenticator(Ticket ticket, byte[] with, Bytes checked, long number) {
            Bytes text = vault.text;
            text.clear();
            int whole = text.open(0x62);
            int row = text.open(SEQUENCE);
            text.putNumber(0, 5);
            text.putRealm(1);
            text.putName(2, ticket.nameType, ticket.name);
            if (checked.size > 0) {
                vault.sum(ticket.key, USAGE_BODY, checked, 0, checked.size);
                vault.putSum(text, ticket.key);
            }
            text.putNumber(4, made % MICROS);
            text.putTime(5, time());
            if (with.length > 0) {
                text.putKey(6, with);
            }
            if (number >= 0) {
                text.putNumber(7, number);
            }
            text.close(row);
            text.close(whole);
            made++;
        }

        private void putApReq(Ticket ticket, int options, int usage, Bytes to) {
            int whole = to.open(0x6E);
            int row = to.open(SEQUENCE);
            to.putNumber(0, 5);
            to.putNumber(1, 14);
            to.putBits(2, options);
            to.putCopy(3, ticket.raw, 0);
            int field = to.openField(4);
            vault.putSealed(to, ticket.key, usage, 0);
            to.close(field);
            to.close(row);
            to.close(whole);
        }

        /** AP-REQ for a service, and what joining a SESSION wants of it. */
        void goWith(Ticket ticket, int how, Bytes to) {
            byte[] with = (how & 2) != 0 ? vault.freshKey(Vault.typeOf(ticket.key)) : NO_KEY;
            awaits = (how & 1) != 0;
            shownTime = time();
            shownMicro = made % MICROS;
            shownNumber = vault.freshNumber() & 0x3FFFFFFF;
            shownKey = ticket.key;
            otherNumber = 0;
            vault.draft.clear();
            putAuthenticator(ticket, with, vault.draft, shownNumber);
            to.clear();
            putApReq(ticket, awaits ? MUTUAL : 0, USAGE_PROOF, to);
        }

        int hearReply(Bytes reply) {
            if (askedKind < 0) {
                return -3;
            }
            int kind = askedKind;
            askedKind = -1;
            int first = reply.at(0);
            if (first != 107 && first != 109 && first != 126 || !reply.isA(256 + first, 0, reply.size)) {
                return -60;
            }
            if (first == 126) {
                long code = reply.numberAt(reply.field(0, 6));
                return code < 1 || code > ERROR_MOST ? -60 : (int) -code;
            }
            if (first != (kind == 2 ? 109 : 107)) {
                return -40;
            }
            int refused = openReply(kind, reply);
            return refused < 0 ? refused : judgeReply(reply);
        }

        /** 0 if the reply's sealed part is in the text, otherwise why not. */
        private int openReply(int kind, Bytes reply) {
            int sealed = reply.field(0, 6);
            long type = reply.numberAt(reply.field(sealed, 0));
            if (kind == 2 ? type != Vault.typeOf(subkey) : !isAsked(type)) {
                return -14;
            }
            byte[] key = kind == 2 ? subkey : keyOf(type);
            int usage = kind == 2 ? USAGE_TGS_REP_SUBKEY : USAGE_AS_REP;
            Bytes text = vault.text;
            if (!vault.opens(reply, sealed, key, usage, text)) {
                return -31;
            }
            boolean good = text.isA(TGS_REP_PART, 0, text.size) || kind != 2 && text.isA(AS_REP_PART, 0, text.size);
            return good ? 0 : -60;
        }

        private int judgeReply(Bytes reply) {
            Bytes text = vault.text;
            int issued = reply.field(0, 5);
            if (text.numberAt(text.field(0, 2)) != nonce) {
                return -41;
            }
            if (!reply.isRealm(reply.field(0, 3)) || !reply.isNamed(reply.field(0, 4), client)
                || !text.isRealm(text.field(0, 9)) || !text.isNamed(text.field(0, 10), service)
                || !reply.isRealm(reply.field(issued, 1)) || !reply.isNamed(reply.field(issued, 2), service)) {
                return -41;
            }
            byte[] key = Vault.keyAt(text, text.field(0, 0));
            if (key.length == 0) {
                return -14;
            }
            int start = text.timeAt(text.field(0, text.field(0, 6) >= 0 ? 6 : 5));
            if (!renews && Math.abs(start - time()) > SKEW) {
                return -37;
            }
            int w = freePlace();
            if (w >= 0) {
                wallet[w].setRaw(reply, issued);
                wallet[w].setName(reply, reply.field(0, 4));
                wallet[w].setTold(key, text, 0, 4);
            }
            return w;
        }

        int hearService(Bytes reply) {
            if (!awaits) {
                return -3;
            }
            awaits = false;
            if (!reply.isA(AP_REP, 0, reply.size)) {
                return -60;
            }
            if (reply.numberAt(reply.field(0, 0)) != 5) {
                return -3;
            }
            if (reply.numberAt(reply.field(0, 1)) != 15) {
                return -40;
            }
            Bytes text = vault.text;
            if (!vault.opens(reply, reply.field(0, 2), shownKey, USAGE_AP_REP, text)) {
                return -31;
            }
            if (!text.isA(AP_REP_PART, 0, text.size)) {
                return -60;
            }
            if (text.timeAt(text.field(0, 0)) != shownTime || text.numberAt(text.field(0, 1)) != shownMicro) {
                return -46;
            }
            otherNumber = text.numberAt(text.field(0, 3));
            return 0;
        }

        /** The ticket of a KRB-CRED whose opened part is in the text. */
        int keepHanded(Bytes cred) {
            Bytes text = vault.text;
            int info = text.element(text.field(0, 0), 0);
            if (text.partsSize(text.field(info, 2)) > PARTS_MOST) {
                return -60;
            }
            byte[] key = Vault.keyAt(text, text.field(info, 0));
            if (key.length == 0) {
                return -14;
            }
            int w = freePlace();
            if (w >= 0) {
                wallet[w].setRaw(cred, cred.element(cred.field(0, 2), 0));
                wallet[w].setName(text, text.field(info, 2));
                wallet[w].setTold(key, text, info, 3);
            }
            return w;
        }
    }

    /** What a service and one that came to it share. */
    private static final class Session {
        private final Vault vault;
        boolean there;
        int joined = -1;
        private byte[] key = NO_KEY;
        private byte[] ticketKey = NO_KEY;
        private int shownTime;
        private int shownMicro;
        /** -1 if the authenticator had none. */
        private long shownNumber;
        /** By side: the number of its next message, and of the one that it waits for. */
        private final int[] next = new int[2];
        private final int[] due = new int[2];
        private final byte[] address = new byte[4];

        Session(Vault vault) {
            this.vault = vault;
            address[0] = 10;
        }

        void begin(Gate gate, boolean mutual, Bytes to) {
            Bytes proof = gate.proof;
            int number = proof.field(0, 7);
            byte[] with = Vault.keyAt(proof, proof.field(0, 6));
            there = true;
            joined = -1;
            ticketKey = gate.key;
            key = with.length > 0 ? with : gate.key;
            shownTime = proof.timeAt(proof.field(0, 5));
            shownMicro = (int) proof.numberAt(proof.field(0, 4));
            shownNumber = number >= 0 ? proof.numberAt(number) : -1;
            due[1] = number >= 0 ? (int) shownNumber : 0;
            next[1] = mutual && number >= 0 ? vault.freshNumber() & 0x3FFFFFFF : 0;
            if (mutual) {
                putApRep(to);
            }
        }

        private void putApRep(Bytes to) {
            Bytes text = vault.text;
            text.clear();
            int whole = text.open(0x7B);
            int row = text.open(SEQUENCE);
            text.putTime(0, shownTime);
            text.putNumber(1, shownMicro);
            if (shownNumber >= 0) {
                text.putNumber(3, next[1]);
            }
            text.close(row);
            text.close(whole);
            int outer = to.open(0x6F);
            int fields = to.open(SEQUENCE);
            to.putNumber(0, 5);
            to.putNumber(1, 15);
            int field = to.openField(2);
            vault.putSealed(to, ticketKey, USAGE_AP_REP, 0);
            to.close(field);
            to.close(fields);
            to.close(outer);
        }

        void leave(int a) {
            if (joined == a) {
                joined = -1;
            }
        }

        boolean join(int a, Agent agent) {
            if (agent.shownNumber < 0 || agent.shownNumber != shownNumber || agent.shownTime != shownTime
                || agent.shownMicro != shownMicro || !isTicketKey(agent.shownKey)) {
                return false;
            }
            joined = a;
            next[0] = (int) agent.shownNumber;
            due[0] = (int) agent.otherNumber;
            return true;
        }

        private boolean isTicketKey(byte[] other) {
            if (other.length != ticketKey.length) {
                return false;
            }
            for (int i = 0; i < other.length; i++) {
                if (other[i] != ticketKey[i]) {
                    return false;
                }
            }
            return true;
        }

        /** The fields that EncKrbPrivPart and KRB-SAFE-BODY both have, in a SEQUENCE. */
        private void putData(int side, int time, Bytes data, Bytes to) {
            int whole = to.open(SEQUENCE);
            to.putOctets(0, data.row, 0, data.size);
            to.putTime(1, time);
            to.putNumber(2, 0);
            to.putNumber(3, next[side] & 0xFFFFFFFFL);
            address[3] = (byte) side;
            to.putPair(4, 2, address, 4);
            to.close(whole);
            next[side]++;
        }

        void putPrivate(int side, int time, Bytes data, Bytes to) {
            Bytes text = vault.text;
            text.clear();
            int part = text.open(0x7C);
            putData(side, time, data, text);
            text.close(part);
            to.clear();
            int whole = to.open(0x75);
            int row = to.open(SEQUENCE);
            to.putNumber(0, 5);
            to.putNumber(1, 21);
            int field = to.openField(3);
            vault.putSealed(to, key, USAGE_PRIV, 0);
            to.close(field);
            to.close(row);
            to.close(whole);
        }

        void putSafe(int side, int time, Bytes data, Bytes to) {
            Bytes text = vault.text;
            text.clear();
            putData(side, time, data, text);
            vault.sum(key, USAGE_SAFE, text, 0, text.size);
            to.clear();
            int whole = to.open(0x74);
            int row = to.open(SEQUENCE);
            to.putNumber(0, 5);
            to.putNumber(1, 20);
            to.putCopy(2, text, 0);
            vault.putSum(to, key);
            to.close(row);
            to.close(whole);
        }

        /** 0 if the message is of its kind, otherwise why not. */
        private static int judgeHead(Bytes message, int kind, int type) {
            if (!message.isA(kind, 0, message.size)) {
                return -60;
            }
            if (message.numberAt(message.field(0, 0)) != 5) {
                return -3;
            }
            return message.numberAt(message.field(0, 1)) != type ? -40 : 0;
        }

        int hearPrivate(int side, int time, Bytes message, Bytes to) {
            int refused = judgeHead(message, KRB_PRIV, 21);
            if (refused < 0) {
                return refused;
            }
            Bytes text = vault.text;
            if (!vault.opens(message, message.field(0, 3), key, USAGE_PRIV, text)) {
                return -31;
            }
            if (!text.isA(PRIV_PART, 0, text.size)) {
                return -60;
            }
            return hearData(side, time, text, text.body(0), to);
        }

        int hearSafe(int side, int time, Bytes message, Bytes to) {
            int refused = judgeHead(message, KRB_SAFE, 20);
            if (refused < 0) {
                return refused;
            }
            int data = message.field(0, 2);
            int check = message.field(0, 3);
            if (!Vault.isSumFor(key, message, check)) {
                return -50;
            }
            vault.sum(key, USAGE_SAFE, message, data, message.stop(data, message.size));
            if (!vault.isSum(message, check)) {
                return -41;
            }
            return hearData(side, time, message, data, to);
        }

        private int hearData(int side, int time, Bytes from, int place, Bytes to) {
            int told = from.timeAt(from.field(place, 1));
            if (told < 0 || Math.abs(told - time) > SKEW) {
                return -37;
            }
            if (!isAddress(from, from.field(place, 4), 1 - side)) {
                return -38;
            }
            int number = from.field(place, 3);
            if (number < 0 || from.numberAt(number) != (due[side] & 0xFFFFFFFFL)) {
                return -42;
            }
            due[side]++;
            int octets = from.field(place, 0);
            int start = from.body(octets);
            to.clear();
            to.append(from.row, start, from.stop(octets, from.size) - start);
            return to.size;
        }

        private static boolean isAddress(Bytes from, int place, int side) {
            int octets = from.field(place, 1);
            int start = from.body(octets);
            return from.numberAt(from.field(place, 0)) == 2 && from.stop(octets, from.size) - start == 4
                && from.at(start) == 10 && from.at(start + 1) == 0 && from.at(start + 2) == 0
                && from.at(start + 3) == side;
        }

        void putCred(Ticket ticket, int time, Bytes to) {
            Bytes text = vault.text;
            text.clear();
            int part = text.open(0x7D);
            int fields = text.open(SEQUENCE);
            int infos = text.openField(0);
            int list = text.open(SEQUENCE);
            ticket.putInfo(text);
            text.close(list);
            text.close(infos);
            text.putTime(2, time);
            text.putNumber(3, 0);
            text.close(fields);
            text.close(part);
            to.clear();
            int whole = to.open(0x76);
            int row = to.open(SEQUENCE);
            to.putNumber(0, 5);
            to.putNumber(1, 22);
            int tickets = to.openField(2);
            to.putValue(SEQUENCE, ticket.raw.row, 0, ticket.raw.size);
            to.close(tickets);
            int field = to.openField(3);
            vault.putSealed(to, key, USAGE_CRED, 0);
            to.close(field);
            to.close(row);
            to.close(whole);
        }

        /** 0 if the KRB-CRED's sealed part is in the text, whole and of this time, otherwise why not. */
        int judgeCred(Bytes message) {
            boolean read = message.isA(KRB_CRED, 0, message.size);
            int tickets = message.field(0, 2);
            if (!read || message.element(tickets, 0) < 0 || message.element(tickets, 1) >= 0) {
                return -60;
            }
            int refused = judgeHead(message, KRB_CRED, 22);
            if (refused < 0) {
                return refused;
            }
            Bytes text = vault.text;
            if (!vault.opens(message, message.field(0, 3), key, USAGE_CRED, text)) {
                return -31;
            }
            if (!text.isA(CRED_PART, 0, text.size) || !isWholeInfo(text, text.field(0, 0))) {
                return -60;
            }
            int told = text.timeAt(text.field(0, 2));
            return told < 0 || Math.abs(told - vault.now) > SKEW ? -37 : 0;
        }

        /** Whether there is one ticket-info with all that a TICKET needs. */
        private static boolean isWholeInfo(Bytes text, int infos) {
            int info = text.element(infos, 0);
            return info >= 0 && text.element(infos, 1) < 0 && text.field(info, 2) >= 0 && text.field(info, 3) >= 0
                && text.field(info, 4) >= 0 && text.field(info, 6) >= 0;
        }
    }

    /** What the centre and the services do alike with an AP-REQ. */
    private static final class Gate {
        private final Vault vault;
        /** EncTicketPart and Authenticator of the one that came last. */
        final Bytes part = new Bytes(TAPE_MOST);
        final Bytes proof = new Bytes(TAPE_MOST);
        byte[] key = NO_KEY;
        int most = ROOM_MOST;

        Gate(Vault vault) {
            this.vault = vault;
        }

        /** 0 if the AP-REQ is good up to its authenticator's being kept, otherwise the code. */
        int judge(Bytes from, int start, int stop, Principal host, Seen seen, int usage) {
            if (!from.isA(AP_REQ, start, stop)) {
                return 60;
            }
            if (from.numberAt(from.field(start, 0)) != 5) {
                return 3;
            }
            if (from.numberAt(from.field(start, 1)) != 14) {
                return 40;
            }
            int options = from.field(start, 2);
            if (usage == USAGE_PROOF && ((from.bitsAt(options) & ~MUTUAL) != 0 || from.hasFarBits(options))) {
                return 13;
            }
            int code = openTicket(from, from.field(start, 3), host);
            if (code == 0) {
                code = openProof(from, from.field(start, 4), usage);
            }
            return code == 0 ? keep(seen) : code;
        }

        private int openTicket(Bytes from, int ticket, Principal host) {
            if (from.numberAt(from.field(ticket, 0)) != 5) {
                return 39;
            }
            if (!from.isRealm(from.field(ticket, 1)) || !from.isNamed(from.field(ticket, 2), host.name)) {
                return 35;
            }
            int sealed = from.field(ticket, 3);
            int told = from.field(sealed, 1);
            long kvno = told < 0 ? host.version : from.numberAt(told);
            if (!host.canOpen(kvno)) {
                return 44;
            }
            long type = from.numberAt(from.field(sealed, 0));
            if (type != 17 && type != 18) {
                return 14;
            }
            if (!vault.opens(from, sealed, host.keyOf(kvno, type), USAGE_TICKET, part)) {
                return 31;
            }
            if (!part.isA(TICKET_PART, 0, part.size) || !part.isRealm(part.field(0, 2))
                || part.partsSize(part.field(0, 3)) > PARTS_MOST) {
                return 60;
            }
            key = Vault.keyAt(part, part.field(0, 1));
            return key.length == 0 ? 14 : 0;
        }

        private int openProof(Bytes from, int sealed, int usage) {
            if (!vault.opens(from, sealed, key, usage, proof)) {
                return 31;
            }
            if (!proof.isA(AUTHENTICATOR, 0, proof.size)) {
                return 60;
            }
            if (!proof.isRealm(proof.field(0, 1)) || !proof.sameParts(proof.field(0, 2), part, part.field(0, 3))) {
                return 36;
            }
            return Math.abs(proof.timeAt(proof.field(0, 5)) - vault.now) > SKEW ? 37 : 0;
        }

        private int keep(Seen seen) {
            int strings = proof.field(proof.field(0, 2), 1);
            int start = proof.body(strings);
            int stop = proof.stop(strings, proof.size);
            int time = proof.timeAt(proof.field(0, 5));
            int micro = (int) proof.numberAt(proof.field(0, 4));
            seen.forget(vault.now);
            if (seen.has(proof, start, stop, time, micro)) {
                return 34;
            }
            return seen.keep(proof, start, stop, time, micro, most) ? 0 : 29;
        }

        int startTime() {
            int start = part.field(0, 6);
            return part.timeAt(start >= 0 ? start : part.field(0, 5));
        }

        int judgeTimes() {
            if (startTime() - vault.now > SKEW) {
                return 33;
            }
            return part.timeAt(part.field(0, 7)) <= vault.now ? 32 : 0;
        }

        /** What a service wants beyond that. */
        int judgeVisit(Principal host, boolean free) {
            int code = judgeTimes();
            int subkey = proof.field(0, 6);
            if (code != 0) {
                return code;
            }
            if (subkey >= 0 && Vault.keyAt(proof, subkey).length == 0) {
                return 14;
            }
            if (host.is(LOCKED)) {
                return 18;
            }
            return free ? 0 : 29;
        }
    }

    /** The centre that gives tickets: judges the request on the TAPE, then writes what it answers. */
    private static final class Centre {
        private static final long NO_END = 1L << 40;

        private final Vault vault;
        private final Gate gate;
        private final Principal[] principals;
        private final Bytes tape;
        private final Bytes said;
        final Seen seen = new Seen();

        boolean initial;
        private boolean read;
        private int body;
        private int options;
        private Principal client;
        private Principal service;
        private int etype;
        private int flags;
        private int endTime;
        private int renewTill;

        Centre(Vault vault, Gate gate, Principal[] principals, Bytes tape, Bytes said) {
            this.vault = vault;
            this.gate = gate;
            this.principals = principals;
            this.tape = tape;
            this.said = said;
            client = principals[0];
            service = principals[0];
        }

        private boolean asks(int option) {
            return (options & option) != 0;
        }

        /** The padata's value of that type that comes first, or -1. */
        int shown(int type) {
            int list = tape.field(0, 3);
            for (int k = 0; k < 16; k++) {
                int entry = tape.element(list, k);
                if (entry >= 0 && tape.numberAt(tape.field(entry, 1)) == type) {
                    return tape.field(entry, 2);
                }
            }
            return -1;
        }

        /** What every request must be. */
        int judge() {
            int first = tape.at(0);
            initial = first == 106;
            read = (initial || first == 108) && tape.isA(256 + first, 0, tape.size);
            if (!read) {
                return 60;
            }
            if (tape.numberAt(tape.field(0, 1)) != 5) {
                return 3;
            }
            if (tape.numberAt(tape.field(0, 2)) != (initial ? 10 : 12)) {
                return 40;
            }
            body = tape.field(0, 4);
            options = tape.bitsAt(tape.field(body, 0));
            if (tape.field(body, 3) < 0) {
                return 7;
            }
            if (!tape.isRealm(tape.field(body, 2))) {
                return 68;
            }
            return !initial && shown(1) < 0 ? 25 : 0;
        }

        int judgeAs() {
            int code = judgeClient(tape, tape.field(body, 1));
            if (code == 0) {
                code = judgeService();
            }
            if (code != 0) {
                return code;
            }
            if (asks(~AS_OPTIONS) || tape.hasFarBits(tape.field(body, 0))) {
                return 13;
            }
            if (tape.timeAt(tape.field(body, 4)) - vault.now > SKEW) {
                return 10;
            }
            if (!findType()) {
                return 14;
            }
            if (client.is(MUST_SHOW)) {
                code = judgeShown();
            }
            return code == 0 ? setTimes() : code;
        }

        /** Of a TGS-REQ whose AP-REQ the gate let in. */
        int judgeTgs() {
            int code = judgeSum();
            if (code == 0) {
                code = gate.judgeTimes();
            }
            if (code == 0) {
                code = judgeClient(gate.part, gate.part.field(0, 3));
            }
            if (code == 0) {
                code = judgeService();
            }
            if (code == 0) {
                code = judgeWishes();
            }
            if (code == 0 && !findType()) {
                code = 14;
            }
            return code == 0 ? setTimes() : code;
        }

        private int judgeClient(Bytes from, int name) {
            int p = Principal.findNamed(principals, from, name);
            if (p < 0) {
                return 6;
            }
            client = principals[p];
            if (client.is(LOCKED)) {
                return 18;
            }
            return client.isOver(vault.now) ? 1 : 0;
        }

        private int judgeService() {
            int p = Principal.findNamed(principals, tape, tape.field(body, 3));
            if (p < 0) {
                return 7;
            }
            service = principals[p];
            if (service.is(LOCKED | NO_SERVICE)) {
                return 12;
            }
            return service.isOver(vault.now) ? 2 : 0;
        }

        private boolean isWanted(int type) {
            int list = tape.field(body, 8);
            for (int k = 0; k < 16; k++) {
                int entry = tape.element(list, k);
                if (entry >= 0 && tape.numberAt(entry) == type) {
                    return true;
                }
            }
            return false;
        }

        private boolean findType() {
            int list = tape.field(body, 8);
            for (int k = 0; k < 16; k++) {
                int entry = tape.element(list, k);
                long type = entry >= 0 ? tape.numberAt(entry) : 0;
                if (type == 17 || type == 18) {
                    etype = (int) type;
                    return true;
                }
            }
            return false;
        }

        private int judgeShown() {
            int value = shown(2);
            if (value < 0) {
                return 25;
            }
            int sealed = tape.body(value);
            if (!tape.isA(ENCRYPTED, sealed, tape.stop(value, tape.size))) {
                return 24;
            }
            long type = tape.numberAt(tape.field(sealed, 0));
            Bytes text = vault.text;
            if (type != 17 && type != 18 || !vault.opens(tape, sealed, client.latestKey(type), USAGE_SHOWN, text)
                || !text.isA(SHOWN_AHEAD, 0, text.size)) {
                return 24;
            }
            return Math.abs(text.timeAt(text.field(0, 0)) - vault.now) > SKEW ? 37 : 0;
        }

        private int judgeSum() {
            int sum = gate.proof.field(0, 3);
            if (sum < 0 || !Vault.isSumFor(gate.key, gate.proof, sum)) {
                return 50;
            }
            vault.sum(gate.key, USAGE_BODY, tape, body, tape.stop(body, tape.size));
            return vault.isSum(gate.proof, sum) ? 0 : 41;
        }

        private int ticketFlags() {
            return gate.part.bitsAt(gate.part.field(0, 0));
        }

        private int judgeWishes() {
            if (asks(~TGS_OPTIONS) || tape.hasFarBits(tape.field(body, 0))) {
                return 13;
            }
            boolean centre = service == principals[0];
            int has = ticketFlags();
            int till = gate.part.timeAt(gate.part.field(0, 8));
            if (asks(FORWARDED) && (has & FORWARDABLE) == 0) {
                return 13;
            }
            if (asks(PROXY) && ((has & PROXIABLE) == 0 || centre)) {
                return 13;
            }
            if (asks(RENEW) && ((has & RENEWABLE) == 0 || till < 0 || !centre)) {
                return 13;
            }
            return asks(RENEW) && till <= vault.now ? 32 : 0;
        }

        /** A time of the request; 0, or none, is without end. */
        private long timeAsked(int field) {
            int time = tape.timeAt(tape.field(body, field));
            return time <= 0 ? NO_END : time;
        }

        /** The times and flags of the ticket to be: 0, or 11 if it would be over already. */
        private int setTimes() {
            if (!initial && asks(RENEW)) {
                return setRenewed();
            }
            long till = timeAsked(5);
            long end = Math.min(till, (long) vault.now + Math.min(client.life, service.life));
            if (!initial) {
                end = Math.min(end, gate.part.timeAt(gate.part.field(0, 7)));
            }
            if (end <= vault.now) {
                return 11;
            }
            endTime = (int) end;
            boolean spare = asks(RENEWABLE_OK) && till > end;
            setFlags(asks(RENEWABLE) || spare);
            setRenewTill(asks(RENEWABLE) ? timeAsked(6) : till);
            return 0;
        }

        private int setRenewed() {
            int last = gate.part.timeAt(gate.part.field(0, 8));
            long span = (long) gate.part.timeAt(gate.part.field(0, 7)) - gate.startTime();
            long end = Math.min(vault.now + span, last);
            endTime = (int) Math.max(0, end);
            renewTill = last;
            flags = ticketFlags() & ~INITIAL;
            return end <= vault.now ? 11 : 0;
        }

        private void setFlags(boolean renewable) {
            int had = initial ? 0 : ticketFlags();
            int wish = options & (FORWARDABLE | PROXIABLE) | (renewable ? RENEWABLE : 0);
            int may = mayFlags(service) & (initial ? mayFlags(client) : had);
            flags = wish & may;
            if (initial) {
                flags |= INITIAL | (client.is(MUST_SHOW) ? PRE_AUTHENT : 0);
            } else {
                flags |= had & PRE_AUTHENT | (had | options) & (FORWARDED | PROXY);
            }
        }

        private static int mayFlags(Principal one) {
            return (one.is(MAY_FORWARD) ? FORWARDABLE : 0) | (one.is(MAY_PROXY) ? PROXIABLE : 0)
                | (one.is(MAY_RENEW) ? RENEWABLE : 0);
        }

        private void setRenewTill(long asked) {
            if ((flags & RENEWABLE) == 0) {
                renewTill = -1;
                return;
            }
            long till = Math.min(asked, (long) vault.now + Math.min(client.renewal, service.renewal));
            int had = initial ? -1 : gate.part.timeAt(gate.part.field(0, 8));
            renewTill = (int) (had >= 0 ? Math.min(till, had) : till);
        }

        void putReply() {
            byte[] key = vault.freshKey(etype);
            int type = initial ? 11 : 13;
            said.clear();
            int whole = said.open(0x60 + type);
            int row = said.open(SEQUENCE);
            said.putNumber(0, 5);
            said.putNumber(1, type);
            if (initial) {
                int list = said.openField(2);
                int entries = said.open(SEQUENCE);
                putInfo(false);
                said.close(entries);
                said.close(list);
            }
            said.putRealm(3);
            putClient(said, 4);
            int field = said.openField(5);
            putTicket(key);
            said.close(field);
            putReplyPart(key);
            field = said.openField(6);
            sealReply();
            said.close(field);
            said.close(row);
            said.close(whole);
        }

        private void putClient(Bytes to, int field) {
            if (initial) {
                to.putCopy(field, tape, tape.field(body, 1));
            } else {
                to.putCopy(field, gate.part, gate.part.field(0, 3));
            }
        }

        private void putAddresses(Bytes to, int field) {
            if (initial || asks(FORWARDED | PROXY)) {
                to.putCopy(field, tape, tape.field(body, 9));
            } else {
                to.putCopy(field, gate.part, gate.part.field(0, 9));
            }
        }

        /** authtime, starttime, endtime and renew-till have the same numbers in both sealed parts. */
        private void putTimes(Bytes to) {
            to.putTime(5, initial ? vault.now : gate.part.timeAt(gate.part.field(0, 5)));
            to.putTime(6, vault.now);
            to.putTime(7, endTime);
            if (renewTill >= 0) {
                to.putTime(8, renewTill);
            }
        }

        private void putTicket(byte[] key) {
            Bytes text = vault.text;
            text.clear();
            int part = text.open(0x63);
            int fields = text.open(SEQUENCE);
            text.putBits(0, flags);
            text.putKey(1, key);
            text.putRealm(2);
            putClient(text, 3);
            text.putPair(4, 1, NO_KEY, 0);
            putTimes(text);
            putAddresses(text, 9);
            text.close(fields);
            text.close(part);
            int whole = said.open(0x61);
            int row = said.open(SEQUENCE);
            said.putNumber(0, 5);
            said.putRealm(1);
            said.putCopy(2, tape, tape.field(body, 3));
            int field = said.openField(3);
            vault.putSealed(said, service.latestKey(18), USAGE_TICKET, service.version);
            said.close(field);
            said.close(row);
            said.close(whole);
        }

        private void putReplyPart(byte[] key) {
            Bytes text = vault.text;
            text.clear();
            int part = text.open(initial ? 0x79 : 0x7A);
            int fields = text.open(SEQUENCE);
            text.putKey(0, key);
            int field = text.openField(1);
            int list = text.open(SEQUENCE);
            int entry = text.open(SEQUENCE);
            text.putNumber(0, 0);
            text.putTime(1, vault.now);
            text.close(entry);
            text.close(list);
            text.close(field);
            text.putCopy(2, tape, tape.field(body, 7));
            text.putBits(4, flags);
            putTimes(text);
            text.putRealm(9);
            text.putCopy(10, tape, tape.field(body, 3));
            putAddresses(text, 11);
            text.close(fields);
            text.close(part);
        }

        private void sealReply() {
            if (initial) {
                vault.putSealed(said, client.latestKey(etype), USAGE_AS_REP, client.version);
                return;
            }
            byte[] subkey = Vault.keyAt(gate.proof, gate.proof.field(0, 6));
            if (subkey.length > 0) {
                vault.putSealed(said, subkey, USAGE_TGS_REP_SUBKEY, 0);
            } else {
                vault.putSealed(said, gate.key, USAGE_TGS_REP, 0);
            }
        }

        /** PA-DATA of ETYPE-INFO2: of the reply's type, and of the other one if both are told and it was asked for. */
        private void putInfo(boolean both) {
            int entry = said.open(SEQUENCE);
            said.putNumber(1, 19);
            int value = said.openField(2);
            int octets = said.open(OCTET_STRING);
            int list = said.open(SEQUENCE);
            putTypeInfo(etype);
            if (both && isWanted(35 - etype)) {
                putTypeInfo(35 - etype);
            }
            said.close(list);
            said.close(octets);
            said.close(value);
            said.close(entry);
        }

        private void putTypeInfo(int type) {
            int entry = said.open(SEQUENCE);
            said.putNumber(0, type);
            int field = said.openField(1);
            int salt = said.open(GENERAL_STRING);
            Vault.putSalt(said, client.name);
            said.close(salt);
            said.close(field);
            int params = said.openField(2);
            int octets = said.open(OCTET_STRING);
            said.putWord(client.rounds);
            said.close(octets);
            said.close(params);
            said.close(entry);
        }

        void putError(int code) {
            int place = read ? tape.field(0, 4) : -1;
            int name = initial ? tape.field(place, 1) : -1;
            int asked = tape.field(place, 3);
            said.clear();
            int whole = said.open(126);
            int row = said.open(SEQUENCE);
            said.putErrorHead(vault.now, code);
            if (name >= 0) {
                said.putCopy(7, tape, tape.field(place, 2));
                said.putCopy(8, tape, name);
            }
            said.putRealm(9);
            if (asked >= 0) {
                said.putCopy(10, tape, asked);
            } else {
                said.putName(10, 2, principals[0].name);
            }
            if (initial && code == 25) {
                putMethods();
            }
            said.close(row);
            said.close(whole);
        }

        /** e-data: METHOD-DATA that tells how one shows itself ahead. */
        private void putMethods() {
            int field = said.openField(12);
            int octets = said.open(OCTET_STRING);
            int list = said.open(SEQUENCE);
            int entry = said.open(SEQUENCE);
            said.putNumber(1, 2);
            said.putOctets(2, NO_KEY, 0, 0);
            said.close(entry);
            putInfo(true);
            said.close(list);
            said.close(octets);
            said.close(field);
        }
    }
}
