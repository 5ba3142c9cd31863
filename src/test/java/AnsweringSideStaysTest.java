import java.util.ArrayList;
import java.util.List;
import java.util.function.Consumer;

/**
 * What leaves a pair's answering side as it is. No call tells whether a NAK SEQUENCE was sent, how far a
 * begun receive is, and which ADDs were done, so each case is told by what the next packets bring about.
 * The pair is 0; its peer, pair 1, starts anew for each packet that it sends.
 */
public final class AnsweringSideStaysTest {
    private static final Check check = new Check();
    private static final int FIRST_ADD = 18;
    private static final int SECOND_ADD = 19;
    private static final int BOX = 8;
    private static final int COUNTER = 31;
    private static final String SEQUENCE = "a NAK SEQUENCE with the number EXPECTED is sent, unless one was sent since the latest packet with d = 0 was done";

    /** A step, which may do a packet with d = 0, so that a NAK SEQUENCE can be sent anew. */
    private record Step(String name, boolean does, Consumer<RemoteReach> act) {
    }

    public static void main(String[] args) {
        keepsWhetherSequenceWasTold();
        keepsTheBegunReceive();
        keepsThatNoneWasBegun();
        keepsTheLatestAdds();
        check.end();
    }

    /** Two ADDs are done; a receive is begun or there is none; a NAK SEQUENCE was sent or not. */
    private static RemoteReach scene(boolean begun, boolean told) {
        RemoteReach x = new RemoteReach(5, 2, 2);
        x.region(0, 0, 0, 32, 7);
        x.region(0, 1, 0, 32, 5);
        x.region(1, 0, 0, 32, 7);
        Links.fill(x, 1, 0, 12, 40);
        x.store(0, COUNTER, 100);
        x.ready(0, 30, FIRST_ADD);
        come(x, 3, 1, FIRST_ADD);
        come(x, 3, 1, SECOND_ADD);
        if (begun) {
            x.receive(0, BOX, 12);
            come(x, 0, 12, SECOND_ADD + 1);
        }
        if (told) {
            come(x, 1, 1, ahead(x, 2));
        }
        Links.loseFrom(x, 0);
        return x;
    }

    private static int ahead(RemoteReach x, int d) {
        return (x.pair(0, 4) + d) % 64;
    }

    /** The first packet of a request of pair 1 comes, to the cell that is added to, or the cells before. */
    private static void come(RemoteReach x, int kind, int n, int number) {
        comeBy(x, kind, n, number, 0);
    }

    private static void comeBy(RemoteReach x, int kind, int n, int number, int region) {
        Links.restart(x, 1, number, 30);
        Links.post(x, 1, kind, 0, n, region, kind == 3 ? COUNTER : COUNTER - n);
        x.push(1);
        deliverLast(x);
    }

    /** The second packet of a SEND comes: 4 cells and not the last, or the last one with 1 cell. */
    private static void comePart(RemoteReach x, int number, boolean last) {
        Links.restart(x, 1, (number + 63) % 64, 30);
        x.send(1, 0, last ? 5 : 12);
        x.push(1);
        x.spoil(x.packets() - 1, false);
        x.push(1);
        deliverLast(x);
    }

    private static void deliverLast(RemoteReach x) {
        x.deliver(x.packets() - 1);
    }

    private static Step step(String name, Consumer<RemoteReach> act) {
        return new Step(name, false, act);
    }

    /** Steps that mean nothing to the answering side, or that it answers without doing anything. */
    private static List<Step> strangers() {
        List<Step> steps = new ArrayList<>();
        steps.add(step("nothing", x -> { }));
        steps.add(step("a receive is posted", x -> x.receive(0, 0, 12)));
        steps.add(step("a tick", x -> x.tick()));
        steps.add(step("a SEND is posted", x -> x.send(0, 0, 1)));
        steps.add(step("a WRITE is posted", x -> x.move(0, false, 0, 1, 0, 0)));
        steps.add(step("a push that sends nothing", x -> check.same("push", -1, x.push(0))));
        steps.add(step("its WRITE is answered by an ACK", x -> ask(x, 1)));
        steps.add(step("its READ is answered by a REPLY", x -> ask(x, 2)));
        steps.add(step("its ADD is answered by a REPLY", x -> ask(x, 3)));
        steps.add(step("its SEND is answered by a NAK NOT READY", x -> ask(x, 0)));
        steps.add(step("its WRITE is answered by a NAK SEQUENCE", AnsweringSideStaysTest::askTooEarly));
        steps.add(step("its WRITE times out", AnsweringSideStaysTest::askInVain));
        steps.add(step("its rest ends", AnsweringSideStaysTest::rest));
        steps.add(step("cells and regions change", AnsweringSideStaysTest::changeMemories));
        steps.add(step("another pair is reset", x -> x.reset(2)));
        steps.add(step("another pair of the node does the same", AnsweringSideStaysTest::stirAnotherPair));
        steps.add(step("packets are lost and copied", AnsweringSideStaysTest::spoilPackets));
        for (int d : new int[] {32, 50, 63}) {
            steps.add(step("a past SEND, d = " + d, x -> come(x, 0, 12, ahead(x, d))));
            steps.add(step("a later part of a past SEND, d = " + d, x -> comePart(x, ahead(x, d), true)));
            steps.add(step("a past WRITE, d = " + d, x -> come(x, 1, 4, ahead(x, d))));
            steps.add(step("a past READ, d = " + d, x -> come(x, 2, 12, ahead(x, d))));
            steps.add(step("a past READ that isn't allowed, d = " + d, x -> comeBy(x, 2, 4, ahead(x, d), 1)));
        }
        steps.add(step("a past ADD that wasn't done", x -> come(x, 3, 1, ahead(x, 40))));
        steps.add(step("the first ADD again", x -> come(x, 3, 1, FIRST_ADD)));
        steps.add(step("the second ADD again", x -> come(x, 3, 1, SECOND_ADD)));
        return steps;
    }

    /** Pair 0's request of one cell goes out, is done by a new peer (or refused), and its answer comes. */
    private static void ask(RemoteReach x, int kind) {
        Links.restart(x, 1, 0, x.pair(0, 1));
        Links.post(x, 0, kind, 0, 1, 0, 0);
        x.push(0);
        deliverLast(x);
        deliverLast(x);
        check.same("answered", kind == 0 ? 1 : 0, x.pair(0, 5));
        check.same("RESTING", kind == 0 ? 1 : 0, x.pair(0, 7));
    }

    private static void askTooEarly(RemoteReach x) {
        Links.restart(x, 1, 0, x.pair(0, 1));
        x.move(0, false, 0, 8, 0, 0);
        Links.pushAll(x, 0);
        deliverLast(x);
        check.packet("a NAK SEQUENCE", x, x.packets() - 1, 0, 6, 30, 0, 1);
        deliverLast(x);
        check.same("the cursor", 30, x.pair(0, 3));
    }

    private static void askInVain(RemoteReach x) {
        x.move(0, false, 0, 1, 0, 0);
        x.push(0);
        Links.tick(x, 5);
        check.same("the cursor", 30, x.pair(0, 3));
    }

    private static void rest(RemoteReach x) {
        ask(x, 0);
        Links.tick(x, 3);
        check.same("RESTING", 0, x.pair(0, 7));
    }

    private static void changeMemories(RemoteReach x) {
        x.store(0, COUNTER, 7);
        x.store(1, 31, 8);
        x.region(0, 2, 0, 32, 7);
        x.region(1, 2, 0, 32, 7);
    }

    /** Pair 2 does ADDs with the same numbers, begins a receive, completes it, and sends a NAK SEQUENCE. */
    private static void stirAnotherPair(RemoteReach x) {
        x.ready(2, 30, FIRST_ADD);
        x.ready(3, FIRST_ADD, 30);
        x.receive(2, 0, 8);
        x.receive(2, 0, 8);
        x.add(3, 0, 0, 30, 5);
        x.add(3, 0, 0, 30, 5);
        x.send(3, 0, 5);
        x.send(3, 0, 8);
        Links.pushAll(x, 3);
        for (int i = 0; i < 5; i++) {
            x.deliver(0);
        }
        check.same("pair 2 has begun its second receive", 1, x.pair(2, 6));
        Links.restart(x, 3, x.pair(2, 4) + 2, 30);
        x.move(3, false, 0, 1, 0, 0);
        x.push(3);
        deliverLast(x);
        check.same("pair 2 has sent a NAK", 6, x.packet(x.packets() - 1, 1));
    }

    private static void spoilPackets(RemoteReach x) {
        Links.crowd(x, 2);
        x.spoil(0, true);
        x.spoil(0, false);
    }

    private static List<Step> doers() {
        List<Step> steps = new ArrayList<>();
        steps.add(new Step("a WRITE is done", true, x -> come(x, 1, 4, ahead(x, 0))));
        steps.add(new Step("a READ is done", true, x -> come(x, 2, 12, ahead(x, 0))));
        return steps;
    }

    private static Step adder() {
        return new Step("an ADD is done", true, x -> come(x, 3, 1, ahead(x, 0)));
    }

    private static Step early(int d) {
        return step("a request that is too early, d = " + d, x -> come(x, 1, 1, ahead(x, d)));
    }

    private static Step startWithin() {
        return step("a FIRST SEND where one was begun", x -> come(x, 0, 12, ahead(x, 0)));
    }

    private static Step partWithout() {
        return step("a later part where none was begun", x -> comePart(x, ahead(x, 0), true));
    }

    private static Step sendInVain() {
        return step("a SEND that finds no receive", AnsweringSideStaysTest::sendInVain);
    }

    private static void sendInVain(RemoteReach x) {
        come(x, 0, 1, ahead(x, 0));
        check.packet("a NAK NOT READY", x, x.packets() - 1, 1, 6, ahead(x, 0), 0, 2);
    }

    private static void keepsWhetherSequenceWasTold() {
        check.sentence(SEQUENCE);
        for (boolean told : new boolean[] {true, false}) {
            for (boolean begun : new boolean[] {true, false}) {
                List<Step> steps = strangers();
                steps.addAll(doers());
                steps.add(adder());
                steps.add(begun ? startWithin() : partWithout());
                if (!begun) {
                    steps.add(sendInVain());
                }
                for (Step step : steps) {
                    RemoteReach x = scene(begun, told);
                    step.act.accept(x);
                    checkSequence(step.name + (told ? ", told" : ", not told"), x, told && !step.does);
                }
            }
        }
    }

    private static void checkSequence(String what, RemoteReach x, boolean told) {
        for (int d : new int[] {1, 31}) {
            Links.loseFrom(x, 0);
            come(x, 1, 1, ahead(x, d));
            boolean tells = !told && d == 1;
            check.same(what + ": NAKs for d = " + d, tells ? 1 : 0, x.packets());
            if (tells) {
                check.packet(what, x, 0, 1, 6, ahead(x, 0), 0, 1);
            }
        }
    }

    private static void keepsTheBegunReceive() {
        check.sentence("Else the cells go to the receive's, one behind the other, and the LAST completes it, with how many cells came.");
        List<Step> steps = strangers();
        steps.addAll(doers());
        steps.add(adder());
        steps.add(startWithin());
        steps.add(early(1));
        steps.add(early(31));
        for (Step step : steps) {
            for (boolean told : new boolean[] {true, false}) {
                RemoteReach x = scene(true, told);
                step.act.accept(x);
                checkBegun(step.name, x);
            }
        }
    }

    /** Four cells came; four more and one come now. */
    private static void checkBegun(String what, RemoteReach x) {
        for (int i = x.completions(0); i > 0; i--) {
            x.poll(0, -1);
        }
        Links.fill(x, 1, 0, 12, 60);
        int receives = x.pair(0, 6);
        comePart(x, ahead(x, 0), false);
        check.packet(what + ": the next part", x, x.packets() - 1, 1, 5, ahead(x, 63));
        check.same(what + ": completions", 0, x.completions(0));
        comePart(x, ahead(x, 0), true);
        check.packet(what + ": the last part", x, x.packets() - 1, 1, 5, ahead(x, 63));
        check.same(what + ": receives", receives - 1, x.pair(0, 6));
        check.completion(what, x, 0, 0, 4, 0, 0, 9);
        int[] cells = {40, 41, 42, 43, 64, 65, 66, 67, 64, 0};
        for (int i = 0; i < cells.length; i++) {
            check.same(what + ": cell " + i + " of the receive", cells[i], x.cell(0, BOX + i));
        }
    }

    private static void keepsThatNoneWasBegun() {
        check.sentence("(A SEND that isn't FIRST where no receive was begun, or a FIRST one where one was begun and not completed, is dropped.)");
        List<Step> steps = strangers();
        steps.addAll(doers());
        steps.add(adder());
        steps.add(partWithout());
        steps.add(sendInVain());
        steps.add(early(1));
        for (Step step : steps) {
            RemoteReach x = scene(false, false);
            step.act.accept(x);
            Links.loseFrom(x, 0);
            comePart(x, ahead(x, 0), false);
            check.same(step.name + ": a later part is dropped", 0, x.packets());
            if (x.pair(0, 6) == 0) {
                x.receive(0, 0, 12);
            }
            come(x, 0, 12, ahead(x, 0));
            check.packet(step.name + ": a FIRST one is taken", x, 0, 1, 5, ahead(x, 63));
        }
    }

    private static void keepsTheLatestAdds() {
        check.sentence("an ADD by the same REPLY as before, if its number is that of one of the latest two ADDs that were done");
        for (boolean begun : new boolean[] {true, false}) {
            List<Step> steps = strangers();
            steps.addAll(doers());
            steps.add(early(1));
            steps.add(early(31));
            steps.add(begun ? startWithin() : partWithout());
            steps.add(begun ? new Step("a part is done", true, x -> comePart(x, ahead(x, 0), true)) : sendInVain());
            for (Step step : steps) {
                RemoteReach x = scene(begun, true);
                step.act.accept(x);
                checkAdds(step.name, x);
            }
        }
    }

    private static void checkAdds(String what, RemoteReach x) {
        checkReply(what + ": the second", x, SECOND_ADD, 101);
        checkReply(what + ": the first, which is no later one by this", x, FIRST_ADD, 100);
        x.store(0, COUNTER, 300);
        int third = ahead(x, 0);
        checkReply(what + ": a third", x, third, 300);
        checkReply(what + ": the third again", x, third, 300);
        checkReply(what + ": the second again", x, SECOND_ADD, 101);
        Links.loseFrom(x, 0);
        come(x, 3, 1, FIRST_ADD);
        check.same(what + ": the first is none of the latest two then", 0, x.packets());
        check.same(what + ": added once", 301, x.cell(0, COUNTER));
    }

    private static void checkReply(String what, RemoteReach x, int number, int v) {
        Links.loseFrom(x, 0);
        come(x, 3, 1, number);
        check.packet(what, x, 0, 1, 4, number, 1);
        x.deliver(0);
        check.same(what + ": what it brings", v, x.cell(1, 0));
    }
}
