import java.util.ArrayList;
import java.util.List;
import java.util.function.Consumer;

/**
 * What leaves a pair's sending side as it is. No call tells the clock and how many tries and NOT READYs
 * there were, so each case is told by what the next ticks and answers do: a clock of 2, or of 1 when
 * RESTING, one try and one NOT READY (two when RESTING) stand before the step, and must stand behind it.
 */
public final class SendingSideStaysTest {
    private static final Check check = new Check();
    private static final int TIMEOUT = 5;
    private static final int TRIES = 2;
    private static final int REFUSALS = 2;
    private static final int OLDEST = 10;
    private static final int BACK = 50;
    private static final String ALONE = "Nothing is promised beyond the answers and state changes described above";

    /** A step, for which an answer may have to lie in the fabric from the start (kind, reason, number). */
    private record Step(String name, int[] answer, Consumer<RemoteReach> act) {
    }

    public static void main(String[] args) {
        waitsOnAfterEachStep();
        countsNotReadysOnAfterEachStep();
        waitsOnForAReadAfterEachStep();
        countsNotReadysOnForARead();
        restsOnAfterEachStep();
        standsStillAfterEachStep();
        check.end();
    }

    private static Step step(String name, Consumer<RemoteReach> act) {
        return new Step(name, null, act);
    }

    private static Step answer(int kind, int reason, int number) {
        return new Step("kind " + kind + ", reason " + reason + " with " + number, new int[] {kind, reason, number},
            x -> x.deliver(0));
    }

    private static void deliverLast(RemoteReach x) {
        x.deliver(x.packets() - 1);
    }

    private static void loseLast(RemoteReach x) {
        x.spoil(x.packets() - 1, false);
    }

    /** Steps that mean nothing to pair 0's sending side, whatever it awaits. */
    private static List<Step> strangers() {
        List<Step> steps = new ArrayList<>();
        steps.add(step("nothing", x -> { }));
        steps.add(step("a SEND is posted", x -> x.send(0, 0, 12)));
        steps.add(step("a WRITE is posted", x -> x.move(0, false, 0, 12, 0, 0)));
        steps.add(step("a READ is posted", x -> x.move(0, true, 0, 12, 0, 0)));
        steps.add(step("an ADD is posted", x -> x.add(0, 0, 0, 0, 0)));
        steps.add(step("a post is refused", x -> check.argument("send", () -> x.send(0, 0, 13))));
        steps.add(step("ready is refused", x -> check.state("ready", () -> x.ready(0, 0, 0))));
        steps.add(step("a receive is posted", x -> x.receive(0, 0, 1)));
        steps.add(step("the peer posts a receive", x -> x.receive(1, 0, 12)));
        steps.add(step("the peer starts anew", x -> Links.restart(x, 1, BACK, OLDEST)));
        steps.add(step("a cell and a region change", SendingSideStaysTest::changeMemories));
        steps.add(step("other pairs send, fail and are reset", SendingSideStaysTest::stirOtherPairs));
        steps.add(step("a request is done", x -> peerWrites(x, 1, 0)));
        steps.add(step("a request is too early", x -> peerWrites(x, 2, 1)));
        steps.add(step("a request comes twice", SendingSideStaysTest::peerWritesTwice));
        steps.add(step("a SEND finds no receive", SendingSideStaysTest::peerSends));
        for (int number : new int[] {OLDEST - 1, OLDEST + 3, OLDEST + 8, OLDEST + 32}) {
            addAnswers(steps, number);
        }
        steps.add(new Step("a packet is lost", new int[] {Links.ACK, 0, OLDEST}, x -> x.spoil(0, false)));
        steps.add(new Step("a packet is copied", new int[] {Links.ACK, 0, OLDEST}, x -> x.spoil(0, true)));
        return steps;
    }

    private static void changeMemories(RemoteReach x) {
        x.store(0, 0, 7);
        x.store(1, 0, 8);
        x.region(0, 1, 0, 4, 7);
        x.region(1, 1, 0, 4, 7);
    }

    private static void stirOtherPairs(RemoteReach x) {
        x.ready(2, OLDEST, BACK);
        x.ready(3, BACK, OLDEST);
        x.move(2, false, 0, 1, 5, 0);
        x.push(2);
        x.region(1, 5, 0, 0, 0);
        deliverLast(x);
        deliverLast(x);
        check.same("pair 2 failed", 2, x.pair(2, 0));
        x.poll(0, -1);
        x.reset(2);
        x.reset(3);
    }

    /** Pair 1 sends WRITEs of one cell, of which one comes to pair 0. */
    private static void peerWrites(RemoteReach x, int n, int which) {
        x.region(0, 0, 0, 32, 7);
        int before = x.packets();
        for (int i = 0; i < n; i++) {
            x.move(1, false, 0, 1, 0, 31);
            x.push(1);
        }
        x.deliver(before + which);
    }

    private static void peerWritesTwice(RemoteReach x) {
        peerWrites(x, 1, 0);
        Links.restart(x, 1, BACK, OLDEST);
        peerWrites(x, 1, 0);
    }

    private static void peerSends(RemoteReach x) {
        x.send(1, 0, 1);
        x.push(1);
        deliverLast(x);
    }

    private static RemoteReach withAnswer(Step step) {
        RemoteReach x = new RemoteReach(TIMEOUT, TRIES, REFUSALS);
        if (step.answer != null) {
            Links.leaveAnswer(x, step.answer[0], step.answer[1], step.answer[2]);
        }
        x.ready(0, OLDEST, BACK);
        x.ready(1, BACK, OLDEST);
        return x;
    }

    private static void refuseOnce(RemoteReach x) {
        x.push(0);
        deliverLast(x);
        deliverLast(x);
    }

    private static void timeOutOnce(RemoteReach x) {
        x.push(0);
        loseLast(x);
        Links.tick(x, TIMEOUT);
    }

    /** One of a SEND's two packets is out; a clock of 2, one try, one NOT READY. */
    private static RemoteReach waiting(Step step) {
        RemoteReach x = withAnswer(step);
        x.send(0, 0, 5);
        refuseOnce(x);
        Links.tick(x, 3);
        timeOutOnce(x);
        x.push(0);
        loseLast(x);
        Links.tick(x, 2);
        return x;
    }

    /** A READ of two numbers and a WRITE are out; a clock of 2, one try. */
    private static RemoteReach waitingForAReply(Step step) {
        RemoteReach x = withAnswer(step);
        x.move(0, true, 0, 8, 0, 0);
        x.move(0, false, 0, 1, 0, 0);
        timeOutOnce(x);
        x.push(0);
        loseLast(x);
        x.push(0);
        loseLast(x);
        Links.tick(x, 2);
        return x;
    }

    /** RESTING with a clock of 1, one try, two NOT READYs. */
    private static RemoteReach resting(Step step) {
        RemoteReach x = withAnswer(step);
        x.send(0, 0, 5);
        refuseOnce(x);
        Links.tick(x, 3);
        timeOutOnce(x);
        refuseOnce(x);
        x.tick();
        return x;
    }

    private static void act(RemoteReach x, Step step, int cursor) {
        step.act.accept(x);
        check.same(step.name + ": state", 1, x.pair(0, 0));
        check.same(step.name + ": OLDEST", OLDEST, x.pair(0, 2));
        check.same(step.name + ": the cursor", cursor, x.pair(0, 3));
        Links.loseFrom(x, 0);
        Links.restart(x, 1, BACK, OLDEST);
    }

    /** With a clock of 2 and one try of two: the third tick is the second try's, and five more the last's. */
    private static void checkClockAndTries(String what, RemoteReach x) {
        int cursor = x.pair(0, 3);
        check.same(what + ": two ticks", 0, x.tick() + x.tick());
        check.same(what + ": the cursor then", cursor, x.pair(0, 3));
        check.same(what + ": the third tick", 0, x.tick());
        check.same(what + ": the cursor is OLDEST", OLDEST, x.pair(0, 3));
        checkLastTry(what, x);
    }

    private static void checkLastTry(String what, RemoteReach x) {
        check.same(what + ": sent again", OLDEST, x.push(0));
        check.same(what + ": four ticks of the last try", 0, x.tick() + x.tick() + x.tick() + x.tick());
        check.same(what + ": the fifth", 1, x.tick());
        check.same(what + ": fails by time", 1, x.poll(0, 3));
    }

    private static void checkFailsByNotReady(String what, RemoteReach x) {
        check.same(what + ": READY before the last NOT READY", 1, x.pair(0, 0));
        refuseOnce(x);
        check.same(what + ": FAILED behind it", 2, x.pair(0, 0));
        check.same(what + ": by NOT READY", 2, x.poll(0, 3));
    }

    private static List<Step> stepsWhileWaiting() {
        List<Step> steps = strangers();
        for (int number = OLDEST + 1; number <= OLDEST + 2; number++) {
            addAnswers(steps, number);
        }
        steps.add(answer(Links.REPLY, 0, OLDEST));
        return steps;
    }

    private static void waitsOnAfterEachStep() {
        check.sentence(ALONE);
        for (Step step : stepsWhileWaiting()) {
            RemoteReach x = waiting(step);
            act(x, step, OLDEST + 1);
            checkClockAndTries(step.name, x);
        }
        for (int pushes = 1; pushes <= 9; pushes++) {
            checkClockAndTries(pushes + " pushes", waitingWithPushes(pushes));
        }
    }

    /** As in waiting, but for three WRITEs that are posted, and so many packets that are pushed then. */
    private static RemoteReach waitingWithPushes(int pushes) {
        RemoteReach x = waiting(step("pushes", y -> { }));
        for (int i = 0; i < 3; i++) {
            x.move(0, false, 0, 12, 0, 0);
        }
        for (int i = 0; i < pushes; i++) {
            check.same("push " + i, i < 7 ? OLDEST + 1 + i : -1, x.push(0));
        }
        Links.loseFrom(x, 0);
        return x;
    }

    private static void countsNotReadysOnAfterEachStep() {
        check.sentence("and has one NOT READY more; if that makes more than allowed, it FAILS with status 2");
        for (Step step : stepsWhileWaiting()) {
            RemoteReach x = waiting(step);
            act(x, step, OLDEST + 1);
            Links.tick(x, 3);
            refuseOnce(x);
            Links.tick(x, 3);
            checkFailsByNotReady(step.name, x);
        }
        for (int pushes = 1; pushes <= 9; pushes++) {
            RemoteReach x = waitingWithPushes(pushes);
            Links.tick(x, 3);
            refuseOnce(x);
            Links.tick(x, 3);
            checkFailsByNotReady(pushes + " pushes", x);
        }
        RemoteReach x = waiting(answer(Links.NAK, 1, OLDEST));
        x.deliver(0);
        check.same("a NAK SEQUENCE with OLDEST", OLDEST, x.pair(0, 3));
        refuseOnce(x);
        Links.tick(x, 3);
        checkFailsByNotReady("a NAK SEQUENCE", x);
    }

    private static void waitsOnForAReadAfterEachStep() {
        check.sentence("all up to p are ANSWERED, but none from the first on that belongs to a READ or ADD");
        List<Step> steps = strangers();
        steps.addAll(answersThatDoNotAnswerARead());
        for (Step step : steps) {
            RemoteReach x = waitingForAReply(step);
            act(x, step, OLDEST + 3);
            checkClockAndTries(step.name, x);
        }
    }

    /** Answers with numbers that are out, which all wait for the REPLY to a READ of two numbers. */
    private static List<Step> answersThatDoNotAnswerARead() {
        List<Step> steps = new ArrayList<>();
        steps.add(answer(Links.ACK, 0, OLDEST));
        for (int number = OLDEST + 1; number <= OLDEST + 2; number++) {
            addAnswers(steps, number);
        }
        return steps;
    }

    private static void addAnswers(List<Step> steps, int number) {
        steps.add(answer(Links.ACK, 0, number));
        steps.add(answer(Links.REPLY, 0, number));
        for (int reason = 1; reason <= 4; reason++) {
            steps.add(answer(Links.NAK, reason, number));
        }
    }

    /** A READ gets a NOT READY from a peer only by a NAK that was meant for a SEND before a reset. */
    private static void countsNotReadysOnForARead() {
        check.sentence("NOT READY: the cursor is OLDEST, the pair is RESTING until its clock is 3 (set to 0 now), and has one NOT READY more");
        for (Step step : answersThatDoNotAnswerARead()) {
            RemoteReach x = new RemoteReach(TIMEOUT, TRIES, REFUSALS);
            Links.leaveAnswer(x, Links.NAK, 2, OLDEST);
            x.spoil(0, true);
            x.spoil(0, true);
            Links.leaveAnswer(x, step.answer[0], step.answer[1], step.answer[2]);
            x.ready(0, OLDEST, BACK);
            x.move(0, true, 0, 8, 0, 0);
            x.move(0, false, 0, 1, 0, 0);
            Links.pushAll(x, 0);
            x.deliver(0);
            check.same(step.name + ": RESTING", 1, x.pair(0, 7));
            Links.tick(x, 3);
            Links.pushAll(x, 0);
            x.deliver(2);
            check.numbers(step.name, x, 0, OLDEST + 3, OLDEST, OLDEST + 3, BACK);
            x.deliver(0);
            check.same(step.name + ": the second NOT READY", 1, x.pair(0, 0));
            check.same(step.name + ": RESTING", 1, x.pair(0, 7));
            Links.tick(x, 3);
            x.push(0);
            x.deliver(0);
            check.same(step.name + ": the third", 2, x.pair(0, 0));
            check.same(step.name + ": by NOT READY", 2, x.poll(0, 3));
        }
    }

    private static void restsOnAfterEachStep() {
        check.sentence("the pair is RESTING until its clock is 3 (set to 0 now)");
        List<Step> steps = strangers();
        for (int number = OLDEST; number <= OLDEST + 2; number++) {
            addAnswers(steps, number);
        }
        steps.add(step("push", x -> check.same("push while RESTING", -1, x.push(0))));
        for (Step step : steps) {
            checkRestsThenTimesOut(step);
            RemoteReach x = resting(step);
            act(x, step, OLDEST);
            Links.tick(x, 2);
            checkFailsByNotReady(step.name + " while RESTING", x);
        }
    }

    private static void checkRestsThenTimesOut(Step step) {
        String what = step.name + " while RESTING";
        RemoteReach x = resting(step);
        act(x, step, OLDEST);
        check.same(what + ": RESTING", 1, x.pair(0, 7));
        check.same(what + ": push", -1, x.push(0));
        check.same(what + ": the second tick", 0, x.tick());
        check.same(what + ": RESTING", 1, x.pair(0, 7));
        check.same(what + ": the third tick", 0, x.tick());
        check.same(what + ": not RESTING", 0, x.pair(0, 7));
        timeOutOnce(x);
        check.same(what + ": the second try", 1, x.pair(0, 0));
        checkLastTry(what, x);
    }

    /** Behind a timeout nothing is out: two tries, one NOT READY. */
    private static RemoteReach standing(Step step) {
        RemoteReach x = waiting(step);
        Links.tick(x, 3);
        return x;
    }

    private static void standsStillAfterEachStep() {
        check.sentence("the clock of each READY pair, by number, whose cursor isn't OLDEST, or that is RESTING, grows by 1.");
        List<Step> steps = strangers();
        for (int number = OLDEST; number <= OLDEST + 2; number++) {
            addAnswers(steps, number);
        }
        steps.add(step("ticks", x -> Links.tick(x, 4 * TIMEOUT)));
        for (Step step : steps) {
            RemoteReach x = standing(step);
            act(x, step, OLDEST);
            checkLastTry(step.name + " when nothing is out", x);
            RemoteReach y = standing(step);
            act(y, step, OLDEST);
            refuseOnce(y);
            Links.tick(y, 3);
            checkFailsByNotReady(step.name + " when nothing is out", y);
        }
    }
}
