/** Promises 18 and 19. */
public final class CompletionsTest {
    private static final Check check = new Check();

    public static void main(String[] args) {
        countsByNode();
        pollsTheFirst();
        refusesWrongPolls();
        losesWhatHasNoRoom();
        goesRoundInItsRow();
        check.end();
    }

    private static RemoteReach open() {
        RemoteReach x = Links.linked(5, 2, 2);
        x.region(1, 0, 0, 32, 7);
        return x;
    }

    private static void write(RemoteReach x, int n) {
        x.move(0, false, 0, n, 0, 0);
        Links.pushAll(x, 0);
        Links.deliverAll(x);
    }

    private static void countsByNode() {
        RemoteReach x = open();
        write(x, 1);
        check.same("completions(0)", 1, x.completions(0));
        check.same("completions(1)", 0, x.completions(1));
        for (int node : new int[] {-1, 2, Integer.MIN_VALUE, Integer.MAX_VALUE}) {
            check.same("completions(" + node + ")", -1, x.completions(node));
        }
    }

    private static void pollsTheFirst() {
        RemoteReach x = open();
        write(x, 7);
        write(x, 3);
        int[] due = {0, 1, 0, 0, 7};
        for (int twice = 0; twice < 2; twice++) {
            for (int what = 0; what < due.length; what++) {
                check.same("poll(0, " + what + ")", due[what], x.poll(0, what));
            }
        }
        check.same("poll leaves them", 2, x.completions(0));
        check.same("poll(0, -1)", 0, x.poll(0, -1));
        check.same("one is gone", 1, x.completions(0));
        check.completion("the next", x, 0, 0, 1, 1, 0, 3);
        check.same("all gone", 0, x.completions(0));
    }

    private static void refusesWrongPolls() {
        RemoteReach x = open();
        int[][] wrong = {{-1, 0}, {2, 0}, {0, -2}, {0, 5}, {Integer.MAX_VALUE, -1}, {1, Integer.MIN_VALUE}};
        for (int[] w : wrong) {
            check.argument("poll(" + w[0] + ", " + w[1] + ")", () -> x.poll(w[0], w[1]));
        }
        write(x, 1);
        for (int[] w : wrong) {
            check.argument("poll(" + w[0] + ", " + w[1] + ") with one there", () -> x.poll(w[0], w[1]));
        }
        check.same("it is there still", 1, x.completions(0));
        for (int what = -1; what < 5; what++) {
            int w = what;
            check.missing("poll(1, " + what + ")", () -> x.poll(1, w));
        }
        x.poll(0, -1);
        check.missing("poll(0, -1)", () -> x.poll(0, -1));
    }

    private static void losesWhatHasNoRoom() {
        RemoteReach x = open();
        for (int i = 0; i < 15; i++) {
            write(x, 1);
        }
        check.same("completions(0)", 15, x.completions(0));
        write(x, 2);
        check.same("completions(0)", 16, x.completions(0));
        write(x, 3);
        check.same("the seventeenth is lost", 16, x.completions(0));
        check.same("but its request is done", 0, x.pair(0, 5));
        for (int i = 0; i < 15; i++) {
            check.completion("in order", x, 0, 0, 1, i, 0, 1);
        }
        check.completion("the last that had room", x, 0, 0, 1, 15, 0, 2);
        check.same("completions(0)", 0, x.completions(0));
        write(x, 4);
        check.completion("the one behind the lost one", x, 0, 0, 1, 17, 0, 4);
    }

    private static void goesRoundInItsRow() {
        RemoteReach x = open();
        for (int i = 0; i < 10; i++) {
            write(x, 1);
        }
        for (int i = 0; i < 8; i++) {
            check.completion("one goes", x, 0, 0, 1, i, 0, 1);
            write(x, 1);
        }
        for (int i = 8; i < 18; i++) {
            check.completion("the others", x, 0, 0, 1, i, 0, 1);
        }
    }
}
