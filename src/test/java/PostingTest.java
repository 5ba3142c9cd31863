import java.util.Arrays;

/** Promises 7, 8, 9 and 10. */
public final class PostingTest {
    private static final Check check = new Check();
    private static final int MIN = Integer.MIN_VALUE;
    private static final int MAX = Integer.MAX_VALUE;

    public static void main(String[] args) {
        givesSerialsAndNumbers();
        refusesWrongSends();
        refusesWrongMoves();
        refusesWrongAdds();
        refusesWrongReceives();
        takesTheEdges();
        wantsAReadyPairWithRoom();
        wantsAPairThatHasNotFailedForReceives();
        looksAtArgumentsBeforeTheState();
        check.end();
    }

    private static void givesSerialsAndNumbers() {
        RemoteReach x = Links.linked(5, 2, 2, 60, 0);
        check.same("send", 0, x.send(0, 0, 4));
        check.same("NEXT after 4 cells", 61, x.pair(0, 1));
        check.same("write", 1, x.move(0, false, 0, 5, 0, 0));
        check.same("NEXT after 5 cells", 63, x.pair(0, 1));
        check.same("read", 2, x.move(0, true, 0, 12, 0, 0));
        check.same("NEXT after 12 cells", 2, x.pair(0, 1));
        check.same("add", 3, x.add(0, 0, 0, 0, 9));
        check.same("NEXT after an ADD", 3, x.pair(0, 1));
        check.numbers("posted, not sent", x, 0, 3, 60, 60, 0);
        check.same("nothing is sent", 0, x.packets());
        check.same("a receive has serials of its own", 0, x.receive(0, 0, 1));
        check.same("the next receive", 1, x.receive(0, 0, 1));
        check.same("another pair's serials", 0, x.send(1, 0, 1));
    }

    private static void refusesWrongSends() {
        RemoteReach x = Links.linked(5, 2, 2);
        int[][] wrong = {{-1, 0, 1}, {4, 0, 1}, {0, 0, 0}, {0, 0, -1}, {0, 0, 13}, {0, -1, 1}, {0, 32, 1}, {0, 31, 2},
            {0, 21, 12}, {0, MAX, 12}, {0, MAX, 1}, {0, MIN, 1}, {0, 0, MAX}, {0, 0, MIN}, {MAX, MAX, MAX}};
        for (int[] w : wrong) {
            check.argument("send" + Arrays.toString(w), () -> x.send(w[0], w[1], w[2]));
        }
        check.same("requests", 0, x.pair(0, 5));
    }

    private static void refusesWrongMoves() {
        RemoteReach x = Links.linked(5, 2, 2);
        int[][] wrong = {{-1, 0, 1, 0, 0}, {4, 0, 1, 0, 0}, {0, 0, 0, 0, 0}, {0, 0, 13, 0, 0}, {0, -1, 1, 0, 0},
            {0, 32, 1, 0, 0}, {0, 31, 2, 0, 0}, {0, MAX, 3, 0, 0}, {0, 0, 1, -1, 0}, {0, 0, 1, 6, 0}, {0, 0, 1, 0, -1},
            {0, 0, 1, 0, 32}, {0, 0, 1, MIN, 0}, {0, 0, 1, 0, MAX}};
        for (int[] w : wrong) {
            check.argument("write" + Arrays.toString(w), () -> x.move(w[0], false, w[1], w[2], w[3], w[4]));
            check.argument("read" + Arrays.toString(w), () -> x.move(w[0], true, w[1], w[2], w[3], w[4]));
        }
        check.same("requests", 0, x.pair(0, 5));
    }

    private static void refusesWrongAdds() {
        RemoteReach x = Links.linked(5, 2, 2);
        int[][] wrong = {{-1, 0, 0, 0}, {4, 0, 0, 0}, {0, -1, 0, 0}, {0, 32, 0, 0}, {0, 0, -1, 0}, {0, 0, 6, 0},
            {0, 0, 0, -1}, {0, 0, 0, 32}, {0, MAX, 0, 0}, {0, 0, MIN, 0}};
        for (int[] w : wrong) {
            check.argument("add" + Arrays.toString(w), () -> x.add(w[0], w[1], w[2], w[3], 1));
        }
        check.same("requests", 0, x.pair(0, 5));
    }

    private static void refusesWrongReceives() {
        RemoteReach x = Links.linked(5, 2, 2);
        int[][] wrong = {{-1, 0, 1}, {4, 0, 1}, {0, 0, 0}, {0, 0, 13}, {0, -1, 1}, {0, 32, 1}, {0, 31, 2}, {0, MAX, 12}};
        for (int[] w : wrong) {
            check.argument("receive" + Arrays.toString(w), () -> x.receive(w[0], w[1], w[2]));
        }
        check.same("receives", 0, x.pair(0, 6));
    }

    private static void takesTheEdges() {
        RemoteReach x = Links.linked(5, 2, 2);
        check.same("send(0, 20, 12)", 0, x.send(0, 20, 12));
        check.same("send(0, 31, 1)", 1, x.send(0, 31, 1));
        check.same("a place from which not all cells are there", 2, x.move(0, false, 20, 12, 5, 31));
        check.same("add(0, 31, 5, 31, v)", 3, x.add(0, 31, 5, 31, MIN));
        check.same("receive(0, 20, 12)", 0, x.receive(0, 20, 12));
        check.same("receive(0, 31, 1)", 1, x.receive(0, 31, 1));
    }

    private static void wantsAReadyPairWithRoom() {
        RemoteReach x = Links.linked(2, 0, 0);
        refusesRequests("RESET", x, 2);
        for (int i = 0; i < 4; i++) {
            x.add(0, 0, 0, 0, 0);
        }
        refusesRequests("4 requests", x, 0);
        check.same("they are 4", 4, x.pair(0, 5));
        check.same("NEXT", 4, x.pair(0, 1));
        x.push(0);
        Links.tick(x, 2);
        refusesRequests("FAILED", x, 0);
    }

    private static void refusesRequests(String why, RemoteReach x, int q) {
        check.state(why + ": send", () -> x.send(q, 0, 1));
        check.state(why + ": write", () -> x.move(q, false, 0, 1, 0, 0));
        check.state(why + ": read", () -> x.move(q, true, 0, 1, 0, 0));
        check.state(why + ": add", () -> x.add(q, 0, 0, 0, 0));
    }

    private static void wantsAPairThatHasNotFailedForReceives() {
        RemoteReach x = Links.linked(2, 0, 0);
        for (int i = 0; i < 4; i++) {
            check.same("receive of a RESET pair", i, x.receive(2, 0, 1));
            check.same("receive of a READY pair", i, x.receive(0, 0, 1));
        }
        check.state("a fifth one, RESET", () -> x.receive(2, 0, 1));
        check.state("a fifth one, READY", () -> x.receive(0, 0, 1));
        x.send(1, 0, 1);
        x.push(1);
        Links.tick(x, 2);
        check.state("FAILED", () -> x.receive(1, 0, 1));
    }

    private static void looksAtArgumentsBeforeTheState() {
        RemoteReach x = new RemoteReach(5, 2, 2);
        check.argument("send", () -> x.send(0, 0, 13));
        check.argument("move", () -> x.move(0, true, 0, 1, 6, 0));
        check.argument("add", () -> x.add(0, 32, 0, 0, 0));
        for (int i = 0; i < 4; i++) {
            x.receive(0, 0, 1);
        }
        check.argument("receive", () -> x.receive(0, 0, 0));
    }
}
