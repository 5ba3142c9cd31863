/** Promise 1. */
public final class NewObjectTest {
    private static final Check check = new Check();

    public static void main(String[] args) {
        isEmpty();
        limitsTheTimeout();
        limitsTheTries();
        limitsTheRefusals();
        check.end();
    }

    private static void isEmpty() {
        check.sentence("Empty memories, all pairs RESET, an empty fabric.");
        RemoteReach x = new RemoteReach(5, 2, 2);
        check.same("NONE", -1, RemoteReach.NONE);
        check.same("packets()", 0, x.packets());
        for (int node = 0; node < 2; node++) {
            check.same("completions", 0, x.completions(node));
            for (int cell = 0; cell < 32; cell++) {
                check.same("cell", 0, x.cell(node, cell));
            }
        }
        for (int q = 0; q < 4; q++) {
            check.same("state", 0, x.pair(q, 0));
            check.same("requests", 0, x.pair(q, 5));
            check.same("receives", 0, x.pair(q, 6));
            check.same("resting", 0, x.pair(q, 7));
        }
    }

    private static void limitsTheTimeout() {
        check.sentence("The TIMEOUT (2 if less, 20 if more)");
        int[] asked = {Integer.MIN_VALUE, 0, 1, 2, 3, 19, 20, 21, Integer.MAX_VALUE};
        int[] due = {2, 2, 2, 2, 3, 19, 20, 20, 20};
        for (int i = 0; i < asked.length; i++) {
            RemoteReach x = Links.linked(asked[i], 0, 0);
            x.send(0, 0, 1);
            x.push(0);
            int ticks = 1;
            while (ticks < 100 && x.tick() == 0) {
                ticks++;
            }
            check.same("ticks to fail with timeout " + asked[i], due[i], ticks);
        }
    }

    private static void limitsTheTries() {
        check.sentence("and how many tries, and NOT READYs, are allowed (0 if less, 7 if more)");
        int[] asked = {Integer.MIN_VALUE, -1, 0, 1, 6, 7, 8, Integer.MAX_VALUE};
        int[] due = {0, 0, 0, 1, 6, 7, 7, 7};
        for (int i = 0; i < asked.length; i++) {
            RemoteReach x = Links.linked(2, asked[i], 0);
            x.send(0, 0, 1);
            int again = -1;
            while (again < 20 && x.push(0) == 0) {
                again++;
                Links.tick(x, 2);
            }
            check.same("sent again with tries " + asked[i], due[i], again);
            check.same("state with tries " + asked[i], 2, x.pair(0, 0));
        }
    }

    private static void limitsTheRefusals() {
        check.sentence("and how many tries, and NOT READYs, are allowed (0 if less, 7 if more)");
        int[] asked = {Integer.MIN_VALUE, -1, 0, 1, 6, 7, 8, Integer.MAX_VALUE};
        int[] due = {0, 0, 0, 1, 6, 7, 7, 7};
        for (int i = 0; i < asked.length; i++) {
            RemoteReach x = Links.linked(20, 0, asked[i]);
            x.send(0, 0, 1);
            int again = -1;
            while (again < 20 && x.push(0) == 0) {
                again++;
                Links.deliverAll(x);
                Links.tick(x, 3);
            }
            check.same("sent again with refusals " + asked[i], due[i], again);
            check.same("state with refusals " + asked[i], 2, x.pair(0, 0));
        }
    }
}
