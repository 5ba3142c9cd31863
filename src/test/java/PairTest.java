/** Promises 5, 6 and 17. */
public final class PairTest {
    private static final Check check = new Check();

    public static void main(String[] args) {
        becomesReady();
        keepsReceivesPostedBefore();
        refusesToBecomeReady();
        tellsNumbersOnlyWhenReady();
        tellsNoneWhereNothingIs();
        tellsQueuesAndRest();
        isAsAtFirstAfterReset();
        forgetsHowFarItWasAfterReset();
        resetsNoPairThatIsNotThere();
        keepsCompletionsAndPacketsAtReset();
        check.end();
    }

    private static void becomesReady() {
        RemoteReach x = new RemoteReach(5, 2, 2);
        x.ready(2, 63, 0);
        check.same("state", 1, x.pair(2, 0));
        check.numbers("ready(2, 63, 0)", x, 2, 63, 63, 63, 0);
        x.ready(1, 0, 63);
        check.numbers("ready(1, 0, 63)", x, 1, 0, 0, 0, 63);
        check.same("the peer's state", 0, x.pair(3, 0));
    }

    private static void keepsReceivesPostedBefore() {
        RemoteReach x = new RemoteReach(5, 2, 2);
        check.same("receive while RESET", 0, x.receive(1, 4, 2));
        x.ready(1, 0, 9);
        x.ready(0, 9, 0);
        check.same("receives", 1, x.pair(1, 6));
        check.same("the next serial", 1, x.receive(1, 8, 2));
        Links.fill(x, 0, 0, 2, 50);
        x.send(0, 0, 2);
        x.push(0);
        Links.deliverAll(x);
        check.same("cell(1, 5)", 51, x.cell(1, 5));
        check.completion("the receive", x, 1, 1, 4, 0, 0, 2);
    }

    private static void refusesToBecomeReady() {
        RemoteReach x = new RemoteReach(5, 2, 0);
        int[][] wrong = {{-1, 0, 0}, {4, 0, 0}, {0, -1, 0}, {0, 64, 0}, {0, 0, -1}, {0, 0, 64},
            {Integer.MAX_VALUE, Integer.MIN_VALUE, 0}};
        for (int[] w : wrong) {
            check.argument("ready(" + java.util.Arrays.toString(w) + ")", () -> x.ready(w[0], w[1], w[2]));
        }
        check.same("state", 0, x.pair(0, 0));
        x.ready(0, 3, 4);
        check.state("ready twice", () -> x.ready(0, 5, 6));
        check.numbers("after that", x, 0, 3, 3, 3, 4);
        check.argument("a wrong number before the state", () -> x.ready(0, 64, 0));
        x.ready(1, 4, 3);
        x.send(0, 0, 1);
        x.push(0);
        Links.deliverAll(x);
        check.same("failed", 2, x.pair(0, 0));
        check.state("ready when FAILED", () -> x.ready(0, 0, 0));
    }

    private static void tellsNumbersOnlyWhenReady() {
        RemoteReach x = Links.linked(2, 0, 0);
        check.numbers("RESET", x, 2, -1, -1, -1, -1);
        x.send(0, 0, 12);
        x.push(0);
        check.numbers("READY", x, 0, 3, 0, 1, 0);
        Links.tick(x, 2);
        check.same("FAILED", 2, x.pair(0, 0));
        check.numbers("FAILED", x, 0, -1, -1, -1, -1);
        check.same("FAILED: requests", 0, x.pair(0, 5));
        check.same("FAILED: receives", 0, x.pair(0, 6));
        check.same("FAILED: resting", 0, x.pair(0, 7));
    }

    private static void tellsNoneWhereNothingIs() {
        RemoteReach x = Links.linked(5, 2, 2);
        int[][] wrong = {{-1, 0}, {4, 0}, {4, 5}, {0, -1}, {0, 8}, {0, Integer.MAX_VALUE}, {Integer.MIN_VALUE, 0}};
        for (int[] w : wrong) {
            check.same("pair(" + w[0] + ", " + w[1] + ")", -1, x.pair(w[0], w[1]));
        }
    }

    private static void tellsQueuesAndRest() {
        RemoteReach x = Links.linked(5, 2, 2);
        x.send(0, 0, 1);
        x.send(0, 0, 1);
        x.receive(0, 0, 1);
        check.same("requests", 2, x.pair(0, 5));
        check.same("receives", 1, x.pair(0, 6));
        check.same("resting", 0, x.pair(0, 7));
        x.push(0);
        Links.deliverAll(x);
        check.same("resting after NOT READY", 1, x.pair(0, 7));
        check.same("resting of the peer", 0, x.pair(1, 7));
    }

    private static void isAsAtFirstAfterReset() {
        RemoteReach x = Links.linked(5, 2, 2, 10, 20);
        x.receive(0, 0, 1);
        x.send(0, 0, 1);
        x.push(0);
        Links.deliverAll(x);
        check.same("resting before", 1, x.pair(0, 7));
        check.yes("reset(0)", x.reset(0));
        int[] due = {0, -1, -1, -1, -1, 0, 0, 0};
        for (int what = 0; what < due.length; what++) {
            check.same("after reset pair(0, " + what + ")", due[what], x.pair(0, what));
        }
        check.same("no completions", 0, x.completions(0));
        check.yes("reset of a RESET pair", x.reset(0));
        x.ready(0, 10, 2);
        check.numbers("ready again", x, 0, 10, 10, 10, 2);
        check.same("nothing of before is sent", -1, x.push(0));
        check.same("request serials anew", 0, x.send(0, 0, 1));
        check.same("receive serials anew", 0, x.receive(0, 0, 1));
    }

    private static void forgetsHowFarItWasAfterReset() {
        check.sentence("A pair is RESET: its queues are empty, without completions, all about it is as at first");
        RemoteReach x = Links.linked(3, 1, 1);
        x.send(0, 0, 1);
        x.push(0);
        Links.tick(x, 3);
        x.push(0);
        Links.tick(x, 2);
        x.reset(0);
        x.ready(0, 0, 0);
        x.send(0, 0, 1);
        x.push(0);
        check.same("clock and tries anew", 0, x.tick() + x.tick() + x.tick());
        check.same("still READY", 1, x.pair(0, 0));

        RemoteReach w = Links.linked(5, 2, 1);
        for (int i = 0; i < 2; i++) {
            w.send(0, 0, 1);
            w.push(0);
            Links.deliverAll(w);
            check.same("NOT READYs anew", 1, w.pair(0, 0));
            w.reset(0);
            w.ready(0, 0, 0);
        }

        RemoteReach v = Links.linked(5, 2, 2);
        v.send(0, 0, 8);
        Links.pushAll(v, 0);
        v.spoil(1, true);
        v.deliver(1);
        check.same("a NAK SEQUENCE", 3, v.packets());
        v.reset(1);
        v.ready(1, 0, 0);
        v.deliver(1);
        check.same("a NAK SEQUENCE anew", 3, v.packets());

        RemoteReach y = Links.linked(5, 2, 2);
        y.region(1, 0, 0, 32, 7);
        y.add(0, 0, 0, 0, 1);
        y.push(0);
        y.deliver(0);
        y.spoil(0, false);
        y.reset(1);
        y.ready(1, 0, 1);
        Links.tick(y, 5);
        y.push(0);
        y.deliver(0);
        check.same("a forgotten ADD is not answered", 0, y.packets());

        RemoteReach z = Links.linked(5, 2, 2);
        z.send(0, 0, 12);
        z.receive(1, 0, 12);
        z.push(0);
        z.push(0);
        z.deliver(0);
        z.reset(1);
        z.ready(1, 0, 1);
        z.receive(1, 0, 12);
        z.deliver(0);
        check.same("no receive is begun", 1, z.packets());
        check.numbers("no receive is begun", z, 1, 0, 0, 0, 1);
    }

    private static void resetsNoPairThatIsNotThere() {
        check.sentence("false if there is no such pair");
        RemoteReach x = new RemoteReach(5, 2, 2);
        for (int q : new int[] {-1, 4, Integer.MIN_VALUE, Integer.MAX_VALUE}) {
            check.no("reset(" + q + ")", x.reset(q));
        }
    }

    private static void keepsCompletionsAndPacketsAtReset() {
        check.sentence("(serials too; completions that the node has and packets in the fabric stay)");
        RemoteReach x = Links.linked(5, 2, 2);
        x.receive(1, 0, 1);
        x.send(0, 0, 1);
        x.push(0);
        Links.deliverAll(x);
        x.send(0, 0, 1);
        x.push(0);
        x.reset(0);
        x.reset(1);
        check.same("completions(0)", 1, x.completions(0));
        check.same("completions(1)", 1, x.completions(1));
        check.same("packets()", 1, x.packets());
        check.packet("it stays", x, 0, 1, 0, 1);
    }
}
