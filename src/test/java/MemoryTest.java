/** Promises 2, 3 and 4. */
public final class MemoryTest {
    private static final Check check = new Check();

    public static void main(String[] args) {
        storesAndShowsCells();
        refusesWrongCells();
        refusesWrongRegions();
        takesRegionsAtTheEdges();
        replacesARegion();
        keepsNodesApart();
        check.end();
    }

    private static void storesAndShowsCells() {
        RemoteReach x = new RemoteReach(5, 2, 2);
        x.store(0, 0, 7);
        x.store(0, 31, Integer.MIN_VALUE);
        x.store(1, 31, Integer.MAX_VALUE);
        check.same("cell(0, 0)", 7, x.cell(0, 0));
        check.same("cell(0, 31)", Integer.MIN_VALUE, x.cell(0, 31));
        check.same("cell(1, 31)", Integer.MAX_VALUE, x.cell(1, 31));
        check.same("cell(1, 0)", 0, x.cell(1, 0));
        x.store(0, 0, -1);
        check.same("cell(0, 0) again", -1, x.cell(0, 0));
    }

    private static void refusesWrongCells() {
        RemoteReach x = new RemoteReach(5, 2, 2);
        int[][] wrong = {{-1, 0}, {2, 0}, {0, -1}, {0, 32}, {1, 32}, {Integer.MIN_VALUE, Integer.MAX_VALUE}};
        for (int[] w : wrong) {
            check.argument("store(" + w[0] + ", " + w[1] + ", 1)", () -> x.store(w[0], w[1], 1));
            check.same("cell(" + w[0] + ", " + w[1] + ")", 0, x.cell(w[0], w[1]));
        }
    }

    private static void refusesWrongRegions() {
        RemoteReach x = new RemoteReach(5, 2, 2);
        int[][] wrong = {
            {-1, 0, 0, 1, 1}, {2, 0, 0, 1, 1}, {0, -1, 0, 1, 1}, {0, 6, 0, 1, 1}, {0, 0, -1, 1, 1},
            {0, 0, 0, -1, 1}, {0, 0, 1, 32, 1}, {0, 0, 33, 0, 1}, {0, 0, 0, 33, 1}, {0, 0, 0, 1, -1}, {0, 0, 0, 1, 8},
            {0, 0, Integer.MAX_VALUE, Integer.MAX_VALUE, 1}, {0, 0, Integer.MAX_VALUE, 1, 1}, {0, 0, 1, Integer.MAX_VALUE, 1},
            {0, 0, Integer.MIN_VALUE, Integer.MIN_VALUE, 1}, {0, 0, 0, 0, 8}, {0, 0, -1, 0, 0}};
        for (int[] w : wrong) {
            check.argument("region(" + java.util.Arrays.toString(w) + ")", () -> x.region(w[0], w[1], w[2], w[3], w[4]));
        }
    }

    private static void takesRegionsAtTheEdges() {
        RemoteReach x = new RemoteReach(5, 2, 2);
        int[][] right = {{0, 0, 0, 32, 7}, {1, 5, 31, 1, 0}, {0, 5, 32, 0, 0}, {1, 0, 0, 0, 7}};
        for (int[] r : right) {
            check.same("region(" + java.util.Arrays.toString(r) + ") throws", 0,
                Check.thrownBy(() -> x.region(r[0], r[1], r[2], r[3], r[4])));
        }
    }

    /** Whether a write by pair 0 to a cell of node 1 is done. */
    private static boolean writes(RemoteReach x, int region, int place) {
        x.reset(0);
        x.reset(1);
        x.ready(0, 0, 0);
        x.ready(1, 0, 0);
        x.move(0, false, 0, 1, region, place);
        x.push(0);
        x.deliver(0);
        Links.deliverAll(x);
        return x.pair(0, 0) == 1;
    }

    private static void replacesARegion() {
        RemoteReach x = new RemoteReach(5, 2, 2);
        check.no("write without a region", writes(x, 2, 4));
        x.region(1, 2, 4, 2, 1);
        check.no("write before it", writes(x, 2, 3));
        check.yes("write at its first", writes(x, 2, 4));
        check.yes("write at its last", writes(x, 2, 5));
        check.no("write behind it", writes(x, 2, 6));
        check.no("write by another region", writes(x, 1, 4));
        x.region(1, 2, 6, 1, 1);
        check.no("write where it was", writes(x, 2, 4));
        check.yes("write where it is now", writes(x, 2, 6));
        x.region(1, 2, 6, 1, 6);
        check.no("write without the right", writes(x, 2, 6));
        x.region(1, 2, 6, 1, 1);
        int thrown = Check.thrownBy(() -> x.region(1, 2, 0, 33, 7));
        check.same("a wrong region throws", Check.ARGUMENT, thrown);
        check.yes("write after a wrong region", writes(x, 2, 6));
        x.region(1, 2, 6, 0, 7);
        check.no("write after length 0", writes(x, 2, 6));
    }

    private static void keepsNodesApart() {
        RemoteReach x = new RemoteReach(5, 2, 2);
        x.region(0, 0, 0, 32, 7);
        check.no("write by the other node's region", writes(x, 0, 0));
    }
}
