import java.util.ArrayList;
import java.util.List;

/**
 * A house whose calls are written down. An object is promised for 512 calls alone: a test that makes more is stopped
 * here, and what the OUT holds is read from new objects on which the same calls are played again.
 */
final class Played {
    static final int CALLS = 512;

    private interface Call {
        int on(RealmHouse house);
    }

    private final RealmHouse house = new RealmHouse();
    private final List<Call> calls = new ArrayList<>();

    private int call(Call call) {
        if (calls.size() == CALLS) {
            throw new IllegalStateException("an object is promised for " + CALLS + " calls, and no more");
        }
        calls.add(call);
        return call.on(house);
    }

    private static int number(boolean answer) {
        return answer ? 1 : 0;
    }

    int calls() {
        return calls.size();
    }

    /** A new object on which all calls so far have been made. */
    private RealmHouse again() {
        RealmHouse other = new RealmHouse();
        for (Call call : calls) {
            call.on(other);
        }
        return other;
    }

    /** The whole OUT, which costs none of the calls. */
    byte[] whole() {
        int most = CALLS - calls.size();
        if (most < 2) {
            throw new IllegalStateException("no call is left to read the OUT");
        }
        RealmHouse other = again();
        byte[] row = new byte[other.out(-1)];
        int left = most - 1;
        for (int i = 0; i < row.length; i++) {
            if (left == 0) {
                other = again();
                left = most;
            }
            row[i] = (byte) other.out(i);
            left--;
        }
        return row;
    }

    boolean feed(int a, int b, int c, int d, int e) {
        return call(x -> number(x.feed(a, b, c, d, e))) == 1;
    }

    boolean end(int n) {
        return call(x -> number(x.end(n))) == 1;
    }

    int carry(int k, int mask) {
        return call(x -> x.carry(k, mask));
    }

    int out(int i) {
        return call(x -> x.out(i));
    }

    boolean clock(int t) {
        return call(x -> number(x.clock(t))) == 1;
    }

    boolean seed() {
        return call(x -> number(x.seed())) == 1;
    }

    int principal(int count) {
        return call(x -> x.principal(count));
    }

    int change(int p, int count) {
        return call(x -> x.change(p, count));
    }

    boolean policy(int p, int what, int v) {
        return call(x -> number(x.policy(p, what, v))) == 1;
    }

    boolean room(int n) {
        return call(x -> number(x.room(n))) == 1;
    }

    int kdc() {
        return call(x -> x.kdc());
    }

    boolean agent(int a, int count) {
        return call(x -> number(x.agent(a, count))) == 1;
    }

    boolean shift(int a, int seconds) {
        return call(x -> number(x.shift(a, seconds))) == 1;
    }

    int request(int a, int kind, int w, int options, int etypes, int life, int renew) {
        return call(x -> x.request(a, kind, w, options, etypes, life, renew));
    }

    int take(int a) {
        return call(x -> x.take(a));
    }

    int ticket(int a, int w, int what) {
        return call(x -> x.ticket(a, w, what));
    }

    boolean drop(int a, int w) {
        return call(x -> number(x.drop(a, w))) == 1;
    }

    int present(int a, int w, int how) {
        return call(x -> x.present(a, w, how));
    }

    int serve(int s) {
        return call(x -> x.serve(s));
    }

    int met(int a) {
        return call(x -> x.met(a));
    }

    boolean joins(int n, int a) {
        return call(x -> number(x.joins(n, a))) == 1;
    }

    int send(int n, int side) {
        return call(x -> x.send(n, side));
    }

    int receive(int n, int side) {
        return call(x -> x.receive(n, side));
    }

    boolean ends(int n) {
        return call(x -> number(x.ends(n))) == 1;
    }

    int assure(int n, int side) {
        return call(x -> x.assure(n, side));
    }

    int assured(int n, int side) {
        return call(x -> x.assured(n, side));
    }

    int hand(int n, int w) {
        return call(x -> x.hand(n, w));
    }

    int handed(int n, int a) {
        return call(x -> x.handed(n, a));
    }
}
