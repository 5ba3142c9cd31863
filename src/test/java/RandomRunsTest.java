import java.util.NoSuchElementException;
import java.util.Random;
import java.util.function.IntSupplier;

/**
 * Random runs of at most 512 calls, always the same ones, on RemoteReach and on PlainReach: the same
 * answers and exceptions are due, and no exception that the document doesn't name.
 */
public final class RandomRunsTest {
    private static final int RUNS = 6000;
    private static final int CALLS = 512;
    private static final int MOST_TOLD = 20;
    private static final int[] ODD = {Integer.MIN_VALUE, -2, -1, 0, 1, 5, 7, 12, 24, 31, 32, 63, 64, Integer.MAX_VALUE};

    private final Random random;
    private final RemoteReach x;
    private final PlainReach y;
    private final boolean wild;
    private String call;

    private RandomRunsTest(int seed) {
        random = new Random(seed);
        int timeout = any(24) - 1;
        int tries = any(10) - 1;
        int refusals = any(10) - 1;
        x = new RemoteReach(timeout, tries, refusals);
        y = new PlainReach(timeout, tries, refusals);
        wild = seed % 4 == 0;
    }

    public static void main(String[] args) {
        int wrong = 0;
        for (int seed = 0; seed < RUNS && wrong < MOST_TOLD; seed++) {
            wrong += new RandomRunsTest(seed).run(seed) ? 0 : 1;
        }
        System.out.println(RUNS + " random runs, " + wrong + " with a wrong answer");
        if (wrong != 0) {
            System.exit(1);
        }
    }

    private boolean run(int seed) {
        int made = wild ? 0 : prepare();
        for (int i = made; i < CALLS; i++) {
            IntSupplier[] both = any(100) < 70 ? act() : look();
            String got = outcome(both[0]);
            String due = outcome(both[1]);
            if (!got.equals(due)) {
                System.out.println("run " + seed + ", call " + i + ": " + call + " answered " + got + ", due is " + due);
                return false;
            }
        }
        return true;
    }

    private static String outcome(IntSupplier call) {
        try {
            return Integer.toString(call.getAsInt());
        } catch (IllegalArgumentException | IllegalStateException | NoSuchElementException e) {
            return e.getClass().getName();
        }
    }

    private int any(int n) {
        return random.nextInt(n);
    }

    /** Mostly 0 .. n - 1; in a wild run often something else. */
    private int arg(int n) {
        return any(wild ? 5 : 150) == 0 ? ODD[any(ODD.length)] : any(n);
    }

    /** Makes all pairs READY so that they fit, and wide regions: how many calls that took. */
    private int prepare() {
        for (int q = 0; q < 4; q += 2) {
            int first = any(64);
            int back = any(64);
            link(q, first, back);
        }
        for (int node = 0; node < 2; node++) {
            x.region(node, 0, 0, 32, 7);
            y.region(node, 0, 0, 32, 7);
        }
        return 6;
    }

    private void link(int q, int first, int back) {
        x.ready(q, first, back);
        y.ready(q, first, back);
        x.ready(q + 1, back, first);
        y.ready(q + 1, back, first);
    }

    private IntSupplier[] both(String text, IntSupplier a, IntSupplier b) {
        call = text;
        return new IntSupplier[] {a, b};
    }

    private static int flag(boolean b) {
        return b ? 1 : 0;
    }

    private static int nothing(Runnable r) {
        r.run();
        return 0;
    }

    private IntSupplier[] act() {
        int choice = any(100);
        if (choice < 30) {
            int k = any(3) == 0 ? arg(Math.max(1, y.packets())) : 0;
            return both("deliver(" + k + ")", () -> flag(x.deliver(k)), () -> flag(y.deliver(k)));
        }
        if (choice < 55) {
            int q = arg(4);
            return both("push(" + q + ")", () -> x.push(q), () -> y.push(q));
        }
        if (choice < 60) {
            int k = arg(Math.max(1, y.packets()));
            boolean copy = any(2) == 0;
            return both("spoil(" + k + ", " + copy + ")", () -> flag(x.spoil(k, copy)), () -> flag(y.spoil(k, copy)));
        }
        if (choice < 66) {
            return both("tick()", x::tick, y::tick);
        }
        if (choice < 90) {
            return post();
        }
        return change();
    }

    private IntSupplier[] post() {
        int q = arg(4);
        int n = 1 + arg(12);
        int here = arg(20);
        int region = any(30) == 0 ? arg(6) : 0;
        int place = any(20) == 0 ? arg(32) : arg(20);
        int v = random.nextInt();
        String told = "(" + q + ", " + here + ", " + n + ", " + region + ", " + place + ", " + v + ")";
        switch (any(7)) {
            case 0:
            case 1: return both("send" + told, () -> x.send(q, here, n), () -> y.send(q, here, n));
            case 2: return both("write" + told, () -> x.move(q, false, here, n, region, place),
                () -> y.move(q, false, here, n, region, place));
            case 3: return both("read" + told, () -> x.move(q, true, here, n, region, place),
                () -> y.move(q, true, here, n, region, place));
            case 4: return both("add" + told, () -> x.add(q, here, region, place, v),
                () -> y.add(q, here, region, place, v));
            default: {
                int room = any(4) == 0 ? n : 12;
                return both("receive" + told + room, () -> x.receive(q, here, room), () -> y.receive(q, here, room));
            }
        }
    }

    private IntSupplier[] change() {
        int node = arg(2);
        int q = arg(4);
        int a = arg(64);
        int b = arg(64);
        int cell = arg(32);
        int length = arg(33);
        int rights = arg(8);
        switch (any(12)) {
            case 0: {
                int region = 1 + arg(5);
                return both("region", () -> nothing(() -> x.region(node, region, cell, length, rights)),
                    () -> nothing(() -> y.region(node, region, cell, length, rights)));
            }
            case 1: return both("region 0", () -> nothing(() -> x.region(node, 0, 0, 32, rights | 3)),
                    () -> nothing(() -> y.region(node, 0, 0, 32, rights | 3)));
            case 2:
                if (any(3) > 0) {
                    return both("packets()", x::packets, y::packets);
                }
                return both("reset(" + q + ")", () -> flag(x.reset(q)), () -> flag(y.reset(q)));
            case 3:
            case 4:
            case 5: return readyAgain(q, a, b);
            default: return both("store", () -> nothing(() -> x.store(node, cell, a)),
                () -> nothing(() -> y.store(node, cell, a)));
        }
    }

    /** A failed pair is RESET, and a RESET one gets numbers that fit its peer's, or nearly. */
    private IntSupplier[] readyAgain(int q, int a, int b) {
        if (y.pair(q, 0) == 2) {
            return both("reset(" + q + ")", () -> flag(x.reset(q)), () -> flag(y.reset(q)));
        }
        int peer = q ^ 1;
        boolean fits = y.pair(peer, 0) == 1;
        int off = any(4) == 0 ? any(5) - 2 : 0;
        int first = fits ? (y.pair(peer, 4) + off) & 63 : a;
        int expected = fits ? y.pair(peer, 2) : b;
        return both("ready(" + q + ", " + first + ", " + expected + ")", () -> nothing(() -> x.ready(q, first, expected)),
            () -> nothing(() -> y.ready(q, first, expected)));
    }

    private IntSupplier[] look() {
        int node = arg(2);
        int q = arg(4);
        int k = arg(Math.max(1, y.packets()));
        int cell = arg(32);
        switch (any(7)) {
            case 0: {
                int what = arg(6);
                return both("packet(" + k + ", " + what + ")", () -> x.packet(k, what), () -> y.packet(k, what));
            }
            case 1: {
                int what = arg(8);
                return both("pair(" + q + ", " + what + ")", () -> x.pair(q, what), () -> y.pair(q, what));
            }
            case 2: return both("completions(" + node + ")", () -> x.completions(node), () -> y.completions(node));
            case 3:
            case 4: {
                int what = arg(6) - 1;
                return both("poll(" + node + ", " + what + ")", () -> x.poll(node, what), () -> y.poll(node, what));
            }
            case 5: return both("packets()", x::packets, y::packets);
            default: return both("cell(" + node + ", " + cell + ")", () -> x.cell(node, cell), () -> y.cell(node, cell));
        }
    }
}
