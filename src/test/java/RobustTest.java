import java.util.Random;

/** LANGUAGE.md 7 and 13: no call throws or hangs, for any arguments in any state; the same calls give the same answers. */
public final class RobustTest {
    private static final int[] ODD = {-1, 0, 1, 2, 3, 4, 7, 8, 11, 12, 255, 300, 4000, Integer.MIN_VALUE, Integer.MAX_VALUE};

    public static void main(String[] args) {
        for (int seed = 0; seed < 400; seed++) {
            long once = life(seed);
            Kit.due("life " + seed + " told twice", life(seed), once);
        }
        refusedCallsLeaveAllAsItWas();
        everyByteOfEveryMessage();
        Kit.finish();
    }

    /** Nearly 512 calls: mostly a visit's usual steps, with odd arguments and changed bytes among them. */
    private static long life(int seed) {
        Random dice = new Random(seed);
        Kit.House h = Kit.house();
        h.agent(0, "anna:secret", 2);
        h.agent(1, "anna:secret", 2);
        long all = 0;
        // No step makes more than ten calls.
        while (h.x.calls() + 10 < Played.CALLS) {
            all = all * 31 + step(h, dice);
        }
        return all;
    }

    private static int odd(Random dice, int usual) {
        return dice.nextInt(4) == 0 ? ODD[dice.nextInt(ODD.length)] : dice.nextInt(usual);
    }

    private static final String[] TEXTS = {"krbtgt/HOUSE", "http/www", "anna", "anna:secret", "x:y", "", "http/www:serv"};

    private static void load(Kit.House h, Random dice) {
        switch (dice.nextInt(6)) {
            case 0:
                h.tape(TEXTS[dice.nextInt(TEXTS.length)]);
                break;
            case 1:
                h.x.carry(dice.nextInt(Math.max(1, h.x.out(-1))), 1 << dice.nextInt(8));
                break;
            case 2:
                h.x.feed(dice.nextInt(), dice.nextInt(), 0x30800000, 106 << 24, -1);
                break;
            case 3:
                h.x.carry(-1, 0);
                h.x.end(dice.nextInt(300));
                break;
            default:
                h.x.carry(-1, 0);
                break;
        }
    }

    private static long step(Kit.House h, Random dice) {
        Played x = h.x;
        int kind = dice.nextInt(30);
        if (kind < 14) {
            load(h, dice);
        }
        switch (kind) {
            case 0:
                return x.kdc();
            case 1:
                return x.take(odd(dice, 2));
            case 2:
                return x.serve(odd(dice, 3));
            case 3:
                return x.met(odd(dice, 2));
            case 4:
                return x.receive(odd(dice, 2), odd(dice, 2));
            case 5:
                return x.assured(odd(dice, 2), odd(dice, 2));
            case 6:
                return x.handed(odd(dice, 2), odd(dice, 2));
            case 7:
                return x.send(odd(dice, 2), odd(dice, 2));
            case 8:
                return x.assure(odd(dice, 2), odd(dice, 2));
            case 9:
                return x.principal(odd(dice, 5));
            case 10:
                return x.change(odd(dice, 3), odd(dice, 5));
            case 11:
                return dice.nextInt(9) == 0 && x.agent(odd(dice, 2), odd(dice, 5)) ? 1 : 0;
            case 12:
                return x.seed() ? 1 : 0;
            case 13:
                return x.request(odd(dice, 2), odd(dice, 3), odd(dice, 3), dice.nextInt(), odd(dice, 5), odd(dice, 9999), odd(dice, 99));
            case 14:
                return x.clock(dice.nextInt(9) == 0 ? odd(dice, 1000) : Kit.NOW + dice.nextInt(400)) ? 1 : 0;
            case 15:
                return x.room(odd(dice, 32)) ? 1 : 0;
            case 16:
                return x.policy(odd(dice, 3), odd(dice, 4), odd(dice, 64)) ? 1 : 0;
            case 17:
                return x.shift(odd(dice, 2), odd(dice, 100)) ? 1 : 0;
            case 18:
                return x.ticket(odd(dice, 2), odd(dice, 8), odd(dice, 6));
            case 19:
                return x.drop(odd(dice, 2), odd(dice, 8)) ? 1 : 0;
            case 20:
                return x.ends(odd(dice, 8)) ? 1 : 0;
            case 21:
                return x.hand(odd(dice, 3), odd(dice, 3));
            case 22:
                return x.out(odd(dice, 700));
            case 23:
                return x.end(odd(dice, 700)) ? 1 : 0;
            default:
                return visit(h, dice);
        }
    }

    /** So that the odd steps meet a house in which something goes on. */
    private static long visit(Kit.House h, Random dice) {
        int a = dice.nextInt(2);
        switch (dice.nextInt(5)) {
            case 0:
                return h.fetch(a, 1, 0, "krbtgt/HOUSE", 0x50800000, 1 + dice.nextInt(4), 36000);
            case 1:
                return h.fetch(a, 2, 0, "http/www", 0, 1 + dice.nextInt(4), 36000);
            case 2:
                h.x.present(a, 1, dice.nextInt(4));
                return h.carry().x.serve(2);
            case 3:
                h.carry().x.met(a);
                return h.x.joins(dice.nextInt(2), a) ? 1 : 0;
            default:
                h.tape("data").x.send(0, a);
                return h.carry().x.receive(0, 1 - a);
        }
    }

    /** A life with refused calls among the others answers to the others as the same life without them. */
    private static void refusedCallsLeaveAllAsItWas() {
        for (int seed = 0; seed < 200; seed++) {
            Kit.due("life " + seed + " with refused calls in it", busyLife(seed, true), busyLife(seed, false));
        }
    }

    private static long busyLife(int seed, boolean disturbed) {
        Random dice = new Random(seed);
        Random noise = new Random(seed);
        Kit.House h = visited();
        h.agent(1, "anna:secret", 2);
        long all = 0;
        for (int k = 0; k < 25; k++) {
            for (int n = 0; disturbed && n < 2; n++) {
                refused(h, noise);
            }
            all = all * 31 + busy(h, dice);
        }
        return all;
    }

    /** Steps that put on the TAPE themselves what they need, so that no refused call before them can take it away. */
    private static long busy(Kit.House h, Random dice) {
        int a = dice.nextInt(2);
        int n = dice.nextInt(3);
        switch (dice.nextInt(10)) {
            case 0:
                return h.x.hand(n, 1) * 9L + h.carry().x.handed(n, a);
            case 1:
                h.tape("safe").x.assure(n, a);
                return h.carry().x.assured(n, 1 - a);
            case 2:
                h.x.present(a, 1, 3);
                return h.carry().x.serve(2) * 99L + h.carry().x.met(a) * 9L + (h.x.joins(n, a) ? 1 : 0);
            case 3:
                return h.x.ticket(a, n, dice.nextInt(6));
            case 4:
                return h.tape("p" + n).x.change(2, 1) + (h.x.ends(2) ? 9 : 0);
            case 5:
                return (h.x.drop(a, 2 + n) ? 1 : 0) + (h.x.clock(Kit.NOW + dice.nextInt(99)) ? 2 : 0);
            default:
                return visit(h, dice);
        }
    }

    private static void refused(Kit.House h, Random dice) {
        switch (dice.nextInt(16)) {
            case 0:
                Kit.due("clock", h.x.clock(-1), false);
                break;
            case 1:
                Kit.due("principal", h.x.principal(1), -1);
                break;
            case 2:
                Kit.due("change", h.x.change(9, 1), -1);
                break;
            case 3:
                Kit.due("policy", h.x.policy(1, 2, 64), false);
                break;
            case 4:
                Kit.due("room", h.x.room(33), false);
                break;
            case 5:
                Kit.due("agent", h.x.agent(0, 0), false);
                break;
            case 6:
                Kit.due("shift", h.x.shift(0, 100001), false);
                break;
            case 7:
                Kit.due("request", h.x.request(0, 1, 0, 0, 0, 0, 0), -1);
                break;
            case 8:
                Kit.due("take", h.x.take(2) + h.x.met(3), -2);
                break;
            case 9:
                Kit.due("drop", h.x.drop(0, 8), false);
                break;
            case 10:
                Kit.due("present", h.x.present(0, 0, 4), -1);
                break;
            case 11:
                Kit.due("serve", h.x.serve(7), -1);
                break;
            case 12:
                Kit.due("joins", h.x.joins(0, 2) || h.x.joins(8, 0), false);
                break;
            case 13:
                Kit.due("send", h.x.send(0, 2) + h.x.assure(8, 1), -2);
                break;
            case 14:
                Kit.due("receive", h.x.receive(0, 1), -60);
                break;
            default:
                Kit.due("hand", h.x.hand(8, 0) + h.x.handed(0, 3), -2);
                break;
        }
    }

    /**
     * A name-type of the ticket's sname is held against nothing, nor are the four bytes of ap-options by the centre.
     * (KRB-CRED's ticket is not looked into at all.)
     */
    private static final int[] MAY_PASS = {5, 1, 0, 0};

    /** Each byte of a request, a reply, an AP-REQ and a KRB-PRIV changed in turn: nothing of it passes as good unless told. */
    private static void everyByteOfEveryMessage() {
        for (int kind = 0; kind < 5; kind++) {
            int passed = 0;
            int size = message(visited(), kind);
            for (int i = 0; i < size; i++) {
                Kit.House h = visited();
                message(h, kind);
                h.x.carry(i, 1 << (i % 8));
                int answer = kind == 0 ? -h.x.kdc() : kind == 1 ? h.x.serve(2) : kind == 2 ? h.x.receive(0, 1)
                    : kind == 3 ? h.x.assured(0, 1) : h.x.handed(0, 0);
                passed += answer >= 0 ? 1 : 0;
            }
            if (kind < 4) {
                Kit.due("changed messages of kind " + kind + " that pass", passed, MAY_PASS[kind]);
            }
        }
    }

    private static Kit.House visited() {
        Kit.House h = Kit.house();
        h.agent(0, "anna:secret", 2);
        h.fetch(0, 1, 0, "krbtgt/HOUSE", 0x50800000, 4, 36000);
        h.fetch(0, 2, 0, "http/www", 0, 4, 36000);
        h.x.present(0, 1, 3);
        h.carry().x.serve(2);
        h.carry().x.met(0);
        h.x.joins(0, 0);
        return h;
    }

    private static int message(Kit.House h, int kind) {
        switch (kind) {
            case 0:
                h.request(0, 2, 0, "http/www", 0, 4, 36000);
                break;
            case 1:
                h.x.present(0, 1, 0);
                break;
            case 2:
                h.tape("data").x.send(0, 0);
                break;
            case 3:
                h.tape("data").x.assure(0, 0);
                break;
            default:
                h.x.hand(0, 1);
                break;
        }
        return h.x.out(-1);
    }
}
