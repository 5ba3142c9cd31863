import java.util.function.Consumer;
import java.util.function.ToIntFunction;

/** The edges that the promises name for each call: its arguments, its answers, and that a refused call changes nothing. */
public final class EdgesOfCallsTest {
    private static final Check check = new Check();
    private static final int MIN = Integer.MIN_VALUE;
    private static final int MAX = Integer.MAX_VALUE;

    public static void main(String[] args) {
        refusesRegions();
        takesRegions();
        leavesARegionWhenRefused();
        stores();
        showsCells();
        becomesReady();
        resets();
        resetsWithoutCompletions();
        posts();
        moves();
        adds();
        receives();
        wantsRoomAndTheRightState();
        pushes();
        delivers();
        spoils();
        ticks();
        countsPackets();
        tellsOfPackets();
        tellsOfPairs();
        countsCompletions();
        polls();
        check.end();
    }

    /**
     * Pair 0 is READY with 4 requests, two of their packets sent, and 4 receives; pair 1 is READY with a
     * begun receive; pair 2 is RESET with a receive; pair 3 is FAILED; node 1 has a completion, node 0 none.
     */
    private static RemoteReach busy() {
        RemoteReach x = new RemoteReach(5, 2, 2);
        x.ready(3, 0, 0);
        x.ready(2, 0, 0);
        x.move(3, false, 0, 1, 5, 0);
        x.push(3);
        Links.deliverAll(x);
        x.reset(2);
        x.receive(2, 3, 4);
        x.region(1, 0, 4, 8, 7);
        x.ready(0, 60, 30);
        x.ready(1, 30, 60);
        Links.fill(x, 0, 0, 4, 10);
        x.receive(1, 20, 12);
        x.send(0, 0, 9);
        x.move(0, false, 0, 4, 0, 4);
        x.move(0, true, 0, 4, 0, 4);
        x.add(0, 0, 0, 4, 1);
        for (int i = 0; i < 4; i++) {
            x.receive(0, i, 1);
        }
        x.push(0);
        x.push(0);
        x.deliver(0);
        return x;
    }

    private static void checkRefused(String what, int due, Consumer<RemoteReach> call) {
        RemoteReach x = busy();
        String before = Links.picture(x);
        check.same(what + " throws", due, Check.thrownBy(() -> call.accept(x)));
        checkAsBefore(what, before, x);
    }

    private static void checkAnswered(String what, int due, ToIntFunction<RemoteReach> call) {
        RemoteReach x = busy();
        String before = Links.picture(x);
        check.same(what, due, call.applyAsInt(x));
        checkAsBefore(what, before, x);
    }

    /** Serials can't be seen before one is given. */
    private static void checkAsBefore(String what, String before, RemoteReach x) {
        check.text(what + " changes nothing", before, Links.picture(x));
        check.same(what + " takes no serial", 0, x.send(1, 0, 1));
        check.same(what + " takes no receive's serial", 1, x.receive(2, 0, 1));
        check.same(what + " takes no receive's serial", 1, x.receive(1, 0, 1));
        x.reset(0);
        check.state("FAILED still", () -> x.ready(3, 0, 0));
    }

    private static void argument(String what, Consumer<RemoteReach> call) {
        checkRefused(what, Check.ARGUMENT, call);
    }

    private static void state(String what, Consumer<RemoteReach> call) {
        checkRefused(what, Check.STATE, call);
    }

    private static final int[] NO_NODES = {MIN, -1, 2, 3, MAX};
    private static final int[] NO_PAIRS = {MIN, -1, 4, 5, MAX};
    private static final int[] NO_REGIONS = {MIN, -1, 6, 7, MAX};
    private static final int[] NO_CELLS = {MIN, -1, 32, 33, MAX};
    private static final int[] NO_NUMBERS = {MIN, -1, 64, 65, MAX};

    /** Places and counts of cells that aren't there, or too many or too few. */
    private static final int[][] NO_SPANS = {{0, 0}, {0, -1}, {0, MIN}, {0, 13}, {0, MAX}, {-1, 1}, {-1, 2}, {MIN, 1}, {32, 1},
        {31, 2}, {29, 4}, {21, 12}, {MAX, 1}, {MAX, 12}, {MIN, MIN}, {MAX, MAX}, {MAX, MIN}};
    private static final int[][] SPANS = {{0, 1}, {31, 1}, {0, 12}, {20, 12}, {30, 2}, {28, 4}};

    private static void refusesRegions() {
        check.sentence("IllegalArgumentException: there is no such node or region, base or length is below 0, base + length is above 32, or rights isn't 0 .. 7.");
        for (int node : NO_NODES) {
            argument("region of node " + node, x -> x.region(node, 0, 0, 1, 1));
        }
        for (int region : NO_REGIONS) {
            argument("region " + region, x -> x.region(0, region, 0, 1, 1));
        }
        int[][] spans = {{-1, 1}, {-1, 0}, {MIN, 0}, {MIN, MIN}, {MIN, MAX}, {0, -1}, {32, -1}, {0, MIN}, {0, 33}, {1, 32}, {31, 2},
            {32, 1}, {33, 0}, {MAX, 0}, {MAX, 1}, {1, MAX}, {MAX, MAX}, {0, MAX}};
        for (int[] s : spans) {
            argument("region from " + s[0] + " with " + s[1], x -> x.region(1, 0, s[0], s[1], 7));
        }
        for (int rights : new int[] {MIN, -1, 8, 9, MAX}) {
            argument("region with rights " + rights, x -> x.region(1, 0, 0, 32, rights));
            argument("region with length 0 and rights " + rights, x -> x.region(1, 0, 0, 0, rights));
        }
    }

    private static void takesRegions() {
        check.sentence("A region of a node becomes this, in place of what it was; length 0: it isn't there.");
        int[][] spans = {{0, 32}, {31, 1}, {0, 1}, {0, 0}, {31, 0}, {32, 0}, {16, 16}};
        for (int[] s : spans) {
            for (int node = 0; node < 2; node++) {
                RemoteReach x = new RemoteReach(5, 2, 2);
                x.region(node, 5, 10, 5, 7);
                x.region(node, 5, s[0], s[1], 7);
                int q = 1 - node;
                String what = "base " + s[0] + ", length " + s[1];
                for (int place : new int[] {0, 10, 14, 16, 31}) {
                    boolean due = place >= s[0] && place < s[0] + s[1];
                    check.same(what + ", place " + place, due ? 1 : 0, Links.reaches(x, q, 3, 1, 5, place) ? 1 : 0);
                }
            }
        }
        RemoteReach x = new RemoteReach(5, 2, 2);
        x.region(1, 0, 0, 32, 0);
        check.no("rights 0", Links.reaches(x, 0, 1, 1, 0, 0));
        x.region(1, 0, 0, 32, 7);
        check.yes("rights 7", Links.reaches(x, 0, 1, 1, 0, 0));
        x.region(1, 0, 0, 32, 6);
        check.no("rights 6 in their place", Links.reaches(x, 0, 1, 1, 0, 0));
    }

    private static void leavesARegionWhenRefused() {
        check.sentence("IllegalArgumentException: there is no such node or region, base or length is below 0, base + length is above 32, or rights isn't 0 .. 7.");
        int[][] wrong = {{2, 3, 0, 32, 7}, {1, 6, 0, 32, 7}, {1, 3, -1, 32, 7}, {1, 3, 0, -1, 7}, {1, 3, 0, 33, 7}, {1, 3, 0, 32, 8}, {1, 3, 0, 0, -1}};
        for (int[] w : wrong) {
            RemoteReach x = new RemoteReach(5, 2, 2);
            x.region(1, 3, 8, 2, 1);
            check.argument("a wrong region", () -> x.region(w[0], w[1], w[2], w[3], w[4]));
            check.yes("its cells", Links.reaches(x, 0, 1, 2, 3, 8));
            check.no("before them", Links.reaches(x, 0, 1, 1, 3, 7));
            check.no("behind them", Links.reaches(x, 0, 1, 1, 3, 10));
            check.no("another right", Links.reaches(x, 0, 2, 1, 3, 8));
        }
    }

    private static void stores() {
        check.sentence("A cell of a node becomes v. IllegalArgumentException: there is no such node or cell.");
        for (int node : NO_NODES) {
            argument("store to node " + node, x -> x.store(node, 0, 5));
        }
        for (int cell : NO_CELLS) {
            argument("store to cell " + cell, x -> x.store(0, cell, 5));
        }
        for (int node = 0; node < 2; node++) {
            for (int cell : new int[] {0, 31}) {
                for (int v : new int[] {MIN, -1, 1, MAX, 0}) {
                    RemoteReach x = busy();
                    x.store(node, cell, v);
                    check.same("store", v, x.cell(node, cell));
                }
            }
        }
    }

    private static void showsCells() {
        check.sentence("A cell of a node; 0 if there is none.");
        RemoteReach x = new RemoteReach(5, 2, 2);
        for (int i = 0; i < 64; i++) {
            x.store(i / 32, i % 32, 7);
        }
        for (int node = 0; node < 2; node++) {
            check.same("the first", 7, x.cell(node, 0));
            check.same("the last", 7, x.cell(node, 31));
            for (int cell : NO_CELLS) {
                check.same("cell " + cell, 0, x.cell(node, cell));
            }
        }
        for (int node : NO_NODES) {
            check.same("node " + node, 0, x.cell(node, 0));
        }
    }

    private static void becomesReady() {
        check.sentence("A pair that is RESET becomes READY: NEXT, OLDEST and the cursor are first, EXPECTED is expected; receives posted before stay.");
        for (int q = 0; q < 4; q++) {
            for (int first : new int[] {0, 1, 62, 63}) {
                for (int expected : new int[] {0, 63}) {
                    RemoteReach x = new RemoteReach(5, 2, 2);
                    x.receive(q, 0, 1);
                    x.ready(q, first, expected);
                    check.same("state", 1, x.pair(q, 0));
                    check.numbers("ready", x, q, first, first, first, expected);
                    check.same("receives", 1, x.pair(q, 6));
                    check.same("the next one", 1, x.receive(q, 0, 1));
                }
            }
        }
        check.sentence("IllegalArgumentException: there is no such pair, or first or expected isn't 0 .. 63. IllegalStateException: it isn't RESET.");
        for (int q : NO_PAIRS) {
            argument("ready of pair " + q, x -> x.ready(q, 0, 0));
        }
        for (int number : NO_NUMBERS) {
            argument("ready from " + number, x -> x.ready(2, number, 0));
            argument("ready expecting " + number, x -> x.ready(2, 0, number));
            argument("ready of a READY pair from " + number, x -> x.ready(0, number, 0));
        }
        state("ready of a READY pair", x -> x.ready(0, 0, 0));
        state("ready of a READY pair", x -> x.ready(1, 30, 61));
        state("ready of a FAILED pair", x -> x.ready(3, 0, 0));
    }

    private static void resets() {
        check.sentence("false if there is no such pair");
        for (int q : NO_PAIRS) {
            checkAnswered("reset(" + q + ")", 0, x -> x.reset(q) ? 1 : 0);
        }
        check.sentence("A pair is RESET: its queues are empty, without completions, all about it is as at first");
        for (int q = 0; q < 4; q++) {
            RemoteReach x = busy();
            int packets = x.packets();
            check.yes("reset(" + q + ")", x.reset(q));
            int[] due = {0, -1, -1, -1, -1, 0, 0, 0};
            for (int what = 0; what < 8; what++) {
                check.same("pair(" + q + ", " + what + ")", due[what], x.pair(q, what));
            }
            check.same("packets stay", packets, x.packets());
            check.same("no completion comes", 0, x.completions(0));
            check.same("and none goes", 1, x.completions(1));
            check.same("serials anew", 0, x.receive(q, 0, 1));
            x.ready(q, 0, 0);
            check.same("serials anew", 0, x.send(q, 0, 1));
            check.same("its request goes first", 0, x.push(q));
        }
    }

    private static void resetsWithoutCompletions() {
        check.sentence("(serials too; completions that the node has and packets in the fabric stay)");
        RemoteReach x = Links.linked(5, 2, 2);
        x.region(1, 0, 0, 32, 7);
        x.store(0, 0, 5);
        x.move(0, false, 0, 1, 0, 0);
        x.push(0);
        Links.deliverAll(x);
        x.move(0, false, 0, 1, 0, 1);
        x.push(0);
        x.reset(0);
        check.same("packets()", 1, x.packets());
        check.packet("the packet", x, 0, 1, 1, 1, 1, 0, 1);
        x.deliver(0);
        check.same("it is done", 5, x.cell(1, 1));
        check.packet("and answered", x, 0, 0, 5, 1);
        check.completion("the completion", x, 0, 0, 1, 0, 0, 1);
        check.same("one alone", 0, x.completions(0));
        x.reset(1);
        check.same("packets()", 1, x.packets());
    }

    private static void posts() {
        check.sentence("IllegalArgumentException: there is no such pair, or n isn't 1 .. 12, or those aren't cells. IllegalStateException: it isn't READY, or has 4 requests.");
        for (int q : NO_PAIRS) {
            argument("send of pair " + q, x -> x.send(q, 0, 1));
        }
        for (int[] s : NO_SPANS) {
            argument("send of " + s[1] + " from " + s[0], x -> x.send(1, s[0], s[1]));
            argument("send of " + s[1] + " from " + s[0] + ", 4 there", x -> x.send(0, s[0], s[1]));
            argument("send of " + s[1] + " from " + s[0] + ", RESET", x -> x.send(2, s[0], s[1]));
        }
        for (int[] s : SPANS) {
            RemoteReach x = busy();
            check.same("send of " + s[1] + " from " + s[0], 0, x.send(1, s[0], s[1]));
        }
    }

    private static void moves() {
        check.sentence("Exceptions as with send, and IllegalArgumentException for the place and region.");
        for (boolean reads : new boolean[] {false, true}) {
            for (int q : NO_PAIRS) {
                argument("move of pair " + q, x -> x.move(q, reads, 0, 1, 0, 0));
            }
            for (int[] s : NO_SPANS) {
                argument("move of " + s[1] + " from " + s[0], x -> x.move(1, reads, s[0], s[1], 0, 0));
            }
            for (int region : NO_REGIONS) {
                argument("move by region " + region, x -> x.move(1, reads, 0, 1, region, 0));
            }
            for (int place : NO_CELLS) {
                argument("move to place " + place, x -> x.move(1, reads, 0, 1, 0, place));
                argument("move to place " + place + ", FAILED", x -> x.move(3, reads, 0, 1, 0, place));
            }
        }
        check.sentence("Posts a WRITE (or READ, if so said) of n cells, here from a cell on, there from a place on (0 .. 31) by a region (0 .. 5): its serial.");
        for (int[] s : SPANS) {
            for (int place : new int[] {0, 31}) {
                for (int region : new int[] {0, 5}) {
                    checkMove(false, s, region, place);
                    checkMove(true, s, region, place);
                }
            }
        }
    }

    private static void checkMove(boolean reads, int[] span, int region, int place) {
        RemoteReach x = busy();
        check.same("move of " + span[1] + " from " + span[0], 0, x.move(1, reads, span[0], span[1], region, place));
        check.same("its number", 30, x.push(1));
        int cells = reads ? span[1] : Math.min(4, span[1]);
        check.packet("its packet", x, 2, 0, reads ? 2 : 1, 30, cells, region, place);
    }

    private static void adds() {
        check.sentence("what was there comes into a cell here: its serial. Exceptions as with move.");
        for (int q : NO_PAIRS) {
            argument("add of pair " + q, x -> x.add(q, 0, 0, 0, 1));
        }
        for (int cell : NO_CELLS) {
            argument("add into cell " + cell, x -> x.add(1, cell, 0, 0, 1));
            argument("add to place " + cell, x -> x.add(1, 0, 0, cell, 1));
        }
        for (int region : NO_REGIONS) {
            argument("add by region " + region, x -> x.add(1, 0, region, 0, 1));
        }
        for (int cell : new int[] {0, 31}) {
            for (int v : new int[] {MIN, 0, MAX}) {
                RemoteReach x = busy();
                check.same("add of " + v, 0, x.add(1, cell, 5, 31 - cell, v));
                check.same("its number", 30, x.push(1));
            }
        }
    }

    private static void receives() {
        check.sentence("IllegalArgumentException as with send. IllegalStateException: the pair is FAILED, or has 4 receives.");
        for (int q : NO_PAIRS) {
            argument("receive of pair " + q, x -> x.receive(q, 0, 1));
        }
        for (int[] s : NO_SPANS) {
            argument("receive of " + s[1] + " from " + s[0], x -> x.receive(1, s[0], s[1]));
            argument("receive of " + s[1] + " from " + s[0] + ", FAILED", x -> x.receive(3, s[0], s[1]));
        }
        for (int[] s : SPANS) {
            RemoteReach x = busy();
            check.same("receive of a READY pair", 1, x.receive(1, s[0], s[1]));
            check.same("receive of a RESET pair", 1, x.receive(2, s[0], s[1]));
        }
        state("receive of a FAILED pair", x -> x.receive(3, 0, 1));
        state("receive of a pair with 4", x -> x.receive(0, 0, 1));
    }

    private static void wantsRoomAndTheRightState() {
        check.sentence("IllegalStateException: it isn't READY, or has 4 requests.");
        int[] pairs = {0, 2, 3};
        String[] why = {"4 requests", "RESET", "FAILED"};
        for (int i = 0; i < pairs.length; i++) {
            int q = pairs[i];
            state("send, " + why[i], x -> x.send(q, 0, 1));
            state("write, " + why[i], x -> x.move(q, false, 0, 1, 0, 0));
            state("read, " + why[i], x -> x.move(q, true, 0, 1, 0, 0));
            state("add, " + why[i], x -> x.add(q, 0, 0, 0, 1));
        }
    }

    private static void pushes() {
        check.sentence("NONE if nothing can be sent now, (the cursor's number before; also if the fabric has no room, when it is lost;) it isn't READY, or there is no such pair.");
        for (int q : NO_PAIRS) {
            checkAnswered("push(" + q + ")", -1, x -> x.push(q));
        }
        checkAnswered("push of a READY pair without requests", -1, x -> x.push(1));
        checkAnswered("push of a RESET pair", -1, x -> x.push(2));
        checkAnswered("push of a FAILED pair", -1, x -> x.push(3));
        RemoteReach x = busy();
        for (int i = x.packets(); i < 24; i++) {
            x.spoil(0, true);
        }
        check.same("the cursor", 62, x.pair(0, 3));
        check.same("the cursor's number before, without room", 62, x.push(0));
        check.same("the cursor", 63, x.pair(0, 3));
        check.same("packets()", 24, x.packets());
    }

    private static void delivers() {
        check.sentence("Packet k of the fabric comes to its pair; false if there is none. (It is gone, whatever becomes of it.)");
        for (int k : new int[] {MIN, -1, 2, 3, 24, MAX}) {
            checkAnswered("deliver(" + k + ")", 0, x -> x.deliver(k) ? 1 : 0);
        }
        RemoteReach x = busy();
        check.same("packets()", 2, x.packets());
        check.yes("the last", x.deliver(1));
        check.same("an ACK leaves nothing", 1, x.packets());
        check.yes("the first", x.deliver(0));
        check.same("a SEND leaves its ACK", 1, x.packets());
        check.yes("its ACK", x.deliver(0));
        check.no("none any more", x.deliver(0));
        Links.crowd(x, 24);
        check.yes("the last of 24", x.deliver(23));
        check.same("it is gone, though its pair is not READY", 23, x.packets());
        check.no("the 24th of 23", x.deliver(23));
    }

    private static void spoils() {
        check.sentence("Packet k is lost (copy false), or copied: the copy is the last one; false if there is none, or for a copy no room.");
        for (int k : new int[] {MIN, -1, 2, 3, 23, 24, MAX}) {
            checkAnswered("spoil(" + k + ", false)", 0, x -> x.spoil(k, false) ? 1 : 0);
            checkAnswered("spoil(" + k + ", true)", 0, x -> x.spoil(k, true) ? 1 : 0);
        }
        RemoteReach x = new RemoteReach(5, 2, 2);
        check.no("an empty fabric, lost", x.spoil(0, false));
        check.no("an empty fabric, copied", x.spoil(0, true));
        Links.crowd(x, 1);
        for (int n = 1; n < 24; n++) {
            check.yes("a copy of the last of " + n, x.spoil(n - 1, true));
            check.same("packets()", n + 1, x.packets());
        }
        check.no("a copy of the first of 24", x.spoil(0, true));
        check.no("a copy of the last of 24", x.spoil(23, true));
        check.same("packets()", 24, x.packets());
        check.yes("the last of 24 is lost", x.spoil(23, false));
        check.yes("then there is room for one", x.spoil(22, true));
        check.no("and no more", x.spoil(0, true));
        for (int n = 24; n > 0; n--) {
            check.yes("the first of " + n + " is lost", x.spoil(0, false));
        }
        check.same("packets()", 0, x.packets());
        spoilsTheRightOne();
    }

    /** Numbers tell which packets are left, and in which order. */
    private static void spoilsTheRightOne() {
        for (int k = 0; k < 4; k++) {
            RemoteReach x = Links.linked(5, 2, 2);
            x.send(0, 0, 12);
            x.send(0, 0, 4);
            Links.pushAll(x, 0);
            check.yes("spoil(" + k + ", true)", x.spoil(k, true));
            check.same("packets()", 5, x.packets());
            for (int i = 0; i < 5; i++) {
                check.same("packet " + i, i < 4 ? i : k, x.packet(i, 2));
            }
            check.yes("spoil(" + k + ", false)", x.spoil(k, false));
            check.same("packets()", 4, x.packets());
            for (int i = 0; i < 4; i++) {
                check.same("packet " + i, i == 3 ? k : i < k ? i : i + 1, x.packet(i, 2));
            }
        }
    }

    private static void ticks() {
        check.sentence("Ticks: how many pairs failed. (By that alone.)");
        for (int sending = 0; sending <= 4; sending++) {
            RemoteReach x = new RemoteReach(2, 0, 0);
            for (int q = 0; q < 4; q++) {
                x.ready(q, 0, 0);
                x.send(q, 0, 1);
            }
            for (int q = 0; q < sending; q++) {
                x.push(q);
            }
            check.same("tick()", 0, x.tick());
            check.same("tick() with " + sending + " that wait", sending, x.tick());
            check.same("tick() then", 0, x.tick());
        }
        RemoteReach x = Links.linked(2, 0, 0);
        x.move(0, false, 0, 1, 0, 0);
        x.push(0);
        x.tick();
        Links.deliverAll(x);
        check.same("both have failed", 4, x.pair(0, 0) + x.pair(1, 0));
        check.same("but not by a tick", 0, x.tick() + x.tick());
    }

    private static void countsPackets() {
        check.sentence("How many packets are in the fabric.");
        RemoteReach x = new RemoteReach(5, 2, 2);
        check.same("none", 0, x.packets());
        Links.crowd(x, 1);
        for (int n = 1; n <= 24; n++) {
            check.same("packets()", n, x.packets());
            x.spoil(0, true);
        }
        check.same("no more", 24, x.packets());
    }

    private static void tellsOfPackets() {
        check.sentence("3 how many cells (READ: are asked for; ADD, ACK, NAK: 0), 4 the region (kinds 1 to 3), or the REASON (NAK), or FIRST + 2 LAST (SEND), 5 the place (kinds 1 to 3). NONE if there is none, or it has no such thing.");
        RemoteReach x = Links.linked(5, 2, 2, 63, 0);
        x.region(1, 2, 0, 32, 7);
        x.send(0, 0, 4);
        x.move(0, false, 0, 2, 2, 31);
        x.move(0, true, 0, 12, 2, 20);
        x.add(0, 0, 2, 7, 99);
        Links.pushAll(x, 0);
        int[][] requests = {{1, 0, 63, 4, 3, -1}, {1, 1, 0, 2, 2, 31}, {1, 2, 1, 12, 2, 20}, {1, 3, 4, 0, 2, 7}};
        checkPackets("requests", x, requests);
        Links.restart(x, 1, 0, 1);
        x.deliver(0);
        x.deliver(1);
        x.deliver(1);
        Links.loseFrom(x, 6);
        int[][] answers = {{1, 1, 0, 2, 2, 31}, {0, 5, 0, 0, -1, -1}, {0, 4, 1, 4, -1, -1}, {0, 4, 2, 4, -1, -1}, {0, 4, 3, 4, -1, -1},
            {0, 4, 4, 1, -1, -1}};
        checkPackets("answers", x, answers);
        for (int reason = 1; reason <= 4; reason++) {
            RemoteReach y = new RemoteReach(5, 2, 2);
            Links.leaveAnswer(y, Links.NAK, reason, 63);
            checkPackets("NAK " + reason, y, new int[][] {{0, 6, 63, 0, reason, -1}});
        }
        for (int k : new int[] {MIN, -1, 2, 3, 24, MAX}) {
            checkAnswered("packet(" + k + ", 0)", -1, y -> y.packet(k, 0));
        }
        for (int what : new int[] {MIN, -1, 6, 7, MAX}) {
            checkAnswered("packet(0, " + what + ")", -1, y -> y.packet(0, what));
        }
        check.same("an empty fabric", -1, new RemoteReach(5, 2, 2).packet(0, 0));
    }

    private static void checkPackets(String what, RemoteReach x, int[][] due) {
        check.same(what + ": packets()", due.length, x.packets());
        for (int k = 0; k < due.length; k++) {
            check.packet(what, x, k, due[k]);
        }
    }

    private static void tellsOfPairs() {
        check.sentence("4 EXPECTED (these four only if it is READY), 5 its requests, 6 its receives (how many), 7 whether it is RESTING, 1 or 0. NONE if there is none.");
        int[][] due = {{1, 2, 60, 62, 30, 4, 4, 0}, {1, 30, 30, 30, 61, 0, 1, 0}, {0, -1, -1, -1, -1, 0, 1, 0}, {2, -1, -1, -1, -1, 0, 0, 0}};
        RemoteReach x = busy();
        for (int q = 0; q < 4; q++) {
            for (int what = 0; what < 8; what++) {
                check.same("pair(" + q + ", " + what + ")", due[q][what], x.pair(q, what));
            }
            for (int what : new int[] {MIN, -1, 8, 9, MAX}) {
                check.same("pair(" + q + ", " + what + ")", -1, x.pair(q, what));
            }
        }
        for (int q : NO_PAIRS) {
            for (int what = 0; what < 8; what++) {
                check.same("pair(" + q + ", " + what + ")", -1, x.pair(q, what));
            }
        }
        x.deliver(0);
        Links.deliverAll(x);
        check.same("EXPECTED", 62, x.pair(1, 4));
        RemoteReach y = Links.linked(5, 2, 2);
        y.send(0, 0, 1);
        y.push(0);
        Links.deliverAll(y);
        check.same("RESTING", 1, y.pair(0, 7));
    }

    private static void countsCompletions() {
        check.sentence("How many completions a node has; NONE if there is no such node.");
        for (int node : NO_NODES) {
            checkAnswered("completions(" + node + ")", -1, x -> x.completions(node));
        }
        checkAnswered("completions(0)", 0, x -> x.completions(0));
        checkAnswered("completions(1)", 1, x -> x.completions(1));
    }

    private static void polls() {
        check.sentence("IllegalArgumentException: there is no such node, or what isn't -1 .. 4. NoSuchElementException: it has none.");
        for (int node : NO_NODES) {
            for (int what : new int[] {-1, 0, 4}) {
                argument("poll(" + node + ", " + what + ")", x -> x.poll(node, what));
            }
        }
        for (int what : new int[] {MIN, -2, 5, 6, MAX}) {
            argument("poll(0, " + what + "), which has none", x -> x.poll(0, what));
            argument("poll(1, " + what + ")", x -> x.poll(1, what));
        }
        for (int what = -1; what <= 4; what++) {
            int w = what;
            checkRefused("poll(0, " + what + ")", Check.MISSING, x -> x.poll(0, w));
        }
        check.sentence("what 0 its pair, 1 its kind, 2 its serial, 3 its status, 4 its length, and, -1, nothing but that it is gone then (0).");
        int[] due = {3, 1, 0, 3, 1};
        for (int what = 0; what < due.length; what++) {
            int w = what;
            checkAnswered("poll(1, " + what + ")", due[what], x -> x.poll(1, w));
        }
        RemoteReach x = busy();
        String before = Links.picture(x);
        check.same("poll(1, -1)", 0, x.poll(1, -1));
        check.same("it is gone", 0, x.completions(1));
        check.missing("poll(1, 0)", () -> x.poll(1, 0));
        check.missing("poll(1, -1)", () -> x.poll(1, -1));
        check.text("nothing but that", before.replace("completions 1: 3 1 0 3 1", "completions 0:"), Links.picture(x));
    }
}
