/** The edges that "WHAT COMES" names for packets of requests: SEND, WRITE, READ and ADD. */
public final class EdgesOfRequestsTest {
    private static final Check check = new Check();
    private static final int MAX = Integer.MAX_VALUE;
    private static final int MIN = Integer.MIN_VALUE;

    public static void main(String[] args) {
        isDroppedUnlessReady();
        knowsHowFarANumberIs();
        tellsSequenceOnce();
        tellsSequenceAgainWhenOneIsDone();
        tellsNoSequenceAgainWhenNoneIsDone();
        acknowledgesPastSendsAndWrites();
        answersPastReadsThatAreAllowed();
        answersPastReadsThatGoBeyondExpected();
        answersPastAddsOfTheLatestTwo();
        keepsAddsThroughOtherRequests();
        keepsAddsOfTwoRounds();
        answersNothingInOtherCases();
        refusesASendWithoutAReceive();
        refusesASendThatFindsNoRoom();
        refusesALaterPartThatFindsNoRoom();
        takesCellsOneBehindTheOther();
        dropsPartsThatDoNotFit();
        writesItsCells();
        repliesWithWhatIsLeft();
        growsRoundTheInts();
        wantsTheRegionTheCellsAndTheRight();
        writesTheFirstPartOfAWriteThatFailsLater();
        failsWithoutARequestsStatus();
        goesBehindItsNumbers();
        check.end();
    }

    private static RemoteReach open(int first) {
        RemoteReach x = Links.linked(5, 2, 2, first, 40);
        x.region(1, 0, 0, 32, 7);
        return x;
    }

    /** A packet of a kind with a number, from a pair 0 that starts anew, comes to pair 1 at once. */
    private static void come(RemoteReach x, int kind, int n, int number) {
        Links.restart(x, 0, number, 40);
        Links.post(x, 0, kind, 0, n, 0, 0);
        x.push(0);
        x.deliver(x.packets() - 1);
    }

    private static void isDroppedUnlessReady() {
        check.sentence("WHAT COMES to a pair that isn't READY is dropped.");
        for (int state : new int[] {0, 2}) {
            for (int kind = 0; kind < 4; kind++) {
                RemoteReach x = open(0);
                x.store(0, 0, 9);
                x.store(1, 1, 8);
                Links.post(x, 0, kind, 0, 1, 0, 1);
                x.push(0);
                leave(x, 1, state);
                checkDropped("kind " + kind + " to state " + state, x);
            }
            for (int kind = Links.REPLY; kind <= Links.NAK; kind++) {
                for (int reason = 1; reason <= (kind == Links.NAK ? 4 : 1); reason++) {
                    RemoteReach x = new RemoteReach(5, 2, 2);
                    Links.leaveAnswer(x, kind, reason, 0);
                    x.ready(1, 0, 0);
                    leave(x, 0, state);
                    checkDropped("kind " + kind + ", reason " + reason + " to state " + state, x);
                }
            }
        }
    }

    /** A pair becomes RESET, with a receive, or FAILED; the fabric has its one packet still. */
    private static void leave(RemoteReach x, int q, int state) {
        x.reset(q);
        if (state == 0) {
            x.receive(q, 0, 12);
            return;
        }
        x.ready(q, 0, 0);
        x.send(q, 0, 1);
        for (int i = 0; i < 40 && x.pair(q, 0) == 1; i++) {
            x.push(q);
            Links.loseFrom(x, 1);
            x.tick();
        }
    }

    private static void checkDropped(String what, RemoteReach x) {
        String before = Links.standing(x);
        check.same(what + ": packets()", 1, x.packets());
        check.yes(what + ": deliver", x.deliver(0));
        check.same(what + ": it is gone, and nothing is sent", 0, x.packets());
        check.text(what + ": nothing is done", before, Links.standing(x));
    }

    private static void knowsHowFarANumberIs() {
        check.sentence("Of a packet of kind 0 to 3 with number p, let d be how far p is behind EXPECTED (0 .. 63).");
        for (int expected : new int[] {0, 1, 31, 32, 33, 63}) {
            for (int kind = 0; kind < 4; kind++) {
                for (int d = 0; d < 64; d++) {
                    RemoteReach x = new RemoteReach(5, 2, 2);
                    x.region(1, 0, 0, 32, 7);
                    x.receive(1, 0, 12);
                    x.ready(1, 0, expected);
                    come(x, kind, 4, (expected + d) % 64);
                    checkAnswer(x, kind, d, expected);
                }
            }
        }
    }

    private static void checkAnswer(RemoteReach x, int kind, int d, int expected) {
        String what = "kind " + kind + ", EXPECTED " + expected + ", d = " + d;
        int p = (expected + d) % 64;
        boolean replies = kind == 2 || kind == 3 && d == 0;
        if (d >= 1 && d <= 31) {
            check.packet(what, x, 0, 0, 6, expected, 0, 1);
        } else if (replies) {
            check.packet(what, x, 0, 0, 4, p, kind == 2 ? 4 : 1);
        } else if (kind < 2) {
            check.packet(what, x, 0, 0, 5, d == 0 ? p : (expected + 63) % 64);
        }
        check.same(what + ": packets()", kind == 3 && d >= 32 ? 0 : 1, x.packets());
        check.same(what + ": EXPECTED", (expected + (d == 0 ? 1 : 0)) % 64, x.pair(1, 4));
        check.same(what + ": state", 1, x.pair(1, 0));
        check.same(what + ": the cell", kind == 3 && d == 0 ? 1 : 0, x.cell(1, 0));
    }

    private static void tellsSequenceOnce() {
        check.sentence("d from 1 to 31: a NAK SEQUENCE with the number EXPECTED is sent, unless one was sent since the latest packet with d = 0 was done");
        RemoteReach x = open(0);
        int[] ahead = {1, 2, 31, 1};
        for (int i = 0; i < ahead.length; i++) {
            for (int kind = 0; kind < 4; kind++) {
                come(x, kind, 1, ahead[i]);
                check.same("only one", 1, x.packets());
            }
        }
        check.packet("with EXPECTED", x, 0, 0, 6, 0, 0, 1);
        x.spoil(0, false);
        come(x, 0, 1, 1);
        check.same("not again when it is lost", 0, x.packets());
    }

    private static void tellsSequenceAgainWhenOneIsDone() {
        check.sentence("d from 1 to 31: a NAK SEQUENCE with the number EXPECTED is sent, unless one was sent since the latest packet with d = 0 was done");
        for (int kind = 0; kind < 4; kind++) {
            RemoteReach x = open(0);
            x.receive(1, 0, 12);
            come(x, 1, 1, 5);
            check.packet("first", x, 0, 0, 6, 0, 0, 1);
            come(x, kind, 1, 0);
            Links.loseFrom(x, 0);
            come(x, 1, 1, 5);
            check.packet("again after kind " + kind, x, 0, 0, 6, 1, 0, 1);
            come(x, 1, 1, 6);
            check.same("and only once", 1, x.packets());
        }
    }

    private static void tellsNoSequenceAgainWhenNoneIsDone() {
        check.sentence("d from 1 to 31: a NAK SEQUENCE with the number EXPECTED is sent, unless one was sent since the latest packet with d = 0 was done");
        RemoteReach x = open(10);
        come(x, 1, 1, 11);
        come(x, 0, 1, 10);
        check.packet("refused, not done", x, 1, 0, 6, 10, 0, 2);
        for (int kind = 0; kind < 4; kind++) {
            come(x, kind, 1, 5);
        }
        Links.loseFrom(x, 0);
        x.ready(2, 0, 0);
        x.ready(3, 0, 0);
        x.move(3, true, 0, 1, 0, 0);
        x.push(3);
        x.deliver(0);
        Links.loseFrom(x, 0);
        come(x, 1, 1, 11);
        check.same("neither by a refusal, a past packet, nor another pair", 0, x.packets());

        RemoteReach y = open(0);
        y.receive(1, 0, 12);
        y.send(0, 0, 8);
        y.push(0);
        y.deliver(0);
        come(y, 1, 1, 5);
        come(y, 0, 1, 1);
        Links.loseFrom(y, 0);
        come(y, 1, 1, 5);
        check.same("nor by one that is dropped", 0, y.packets());
    }

    private static void acknowledgesPastSendsAndWrites() {
        check.sentence("d from 32: a SEND or WRITE is answered by an ACK with the number before EXPECTED");
        for (int expected : new int[] {0, 1, 32, 63}) {
            for (int d : new int[] {32, 33, 62, 63}) {
                for (int kind = 0; kind <= 1; kind++) {
                    RemoteReach x = open(0);
                    Links.restart(x, 1, 40, expected);
                    x.receive(1, 0, 1);
                    x.region(1, 0, 0, 0, 0);
                    x.store(0, 0, 3);
                    come(x, kind, 4, (expected + d) % 64);
                    check.packet("kind " + kind + ", d = " + d, x, 0, 0, 5, (expected + 63) % 64);
                    check.same("not written", 0, x.cell(1, 0));
                    check.same("not taken, though too long", 1, x.pair(1, 6));
                    check.same("not failed, though not allowed", 1, x.pair(1, 0));
                    check.same("EXPECTED", expected, x.pair(1, 4));
                }
            }
        }
    }

    private static void answersPastReadsThatAreAllowed() {
        check.sentence("a READ by REPLIES, if its region allows it now");
        int[][] regions = {{0, 12, 2, 1}, {0, 32, 7, 1}, {0, 11, 2, 0}, {1, 12, 2, 0}, {0, 12, 5, 0}, {0, 0, 7, 0}};
        for (int[] r : regions) {
            RemoteReach x = open(0);
            come(x, 2, 12, 0);
            Links.loseFrom(x, 0);
            Links.fill(x, 1, 0, 12, 60);
            x.region(1, 0, r[0], r[1], r[2]);
            come(x, 2, 12, 0);
            check.same("packets()", r[3] == 1 ? 3 : 0, x.packets());
            check.same("EXPECTED", 3, x.pair(1, 4));
            check.same("state", 1, x.pair(1, 0));
            Links.deliverAll(x);
            check.same("the cells of now", r[3] == 1 ? 71 : 0, x.cell(0, 11));
        }
        RemoteReach x = open(0);
        x.move(0, true, 0, 12, 0, 0);
        x.push(0);
        x.deliver(0);
        x.deliver(0);
        Links.loseFrom(x, 0);
        Links.tick(x, 5);
        x.push(0);
        check.packet("the rest of a READ", x, 0, 1, 2, 1, 8, 0, 4);
        x.deliver(0);
        check.same("REPLIES for the rest alone", 2, x.packets());
        check.packet("first", x, 0, 0, 4, 1, 4);
        check.packet("second", x, 1, 0, 4, 2, 4);
    }

    private static void answersPastReadsThatGoBeyondExpected() {
        check.sentence("a READ by REPLIES, if its region allows it now");
        for (int d : new int[] {62, 63}) {
            RemoteReach x = open(0);
            Links.fill(x, 1, 0, 12, 60);
            Links.restart(x, 1, 40, 1);
            int first = (1 + d) % 64;
            come(x, 2, 12, first);
            check.same("d = " + d + ": REPLIES for all its numbers", 3, x.packets());
            for (int i = 0; i < 3; i++) {
                check.packet("d = " + d, x, i, 0, 4, (first + i) % 64, 4);
            }
            check.same("d = " + d + ": EXPECTED", 1, x.pair(1, 4));
            Links.deliverAll(x);
            check.same("d = " + d + ": the last cell", 71, x.cell(0, 11));
        }
    }

    private static void answersPastAddsOfTheLatestTwo() {
        check.sentence("an ADD by the same REPLY as before, if its number is that of one of the latest two ADDs that were done");
        for (int done = 1; done <= 4; done++) {
            RemoteReach x = open(62);
            x.store(1, 0, 100);
            for (int i = 0; i < done; i++) {
                come(x, 3, 1, (62 + i) % 64);
            }
            Links.loseFrom(x, 0);
            x.store(1, 0, 7);
            x.region(1, 0, 0, 0, 0);
            for (int i = 0; i < done; i++) {
                come(x, 3, 1, (62 + i) % 64);
                boolean kept = i >= done - 2;
                check.same(done + " done, a copy of the one with " + i + " before", kept ? 1 : 0, x.packets());
                if (kept) {
                    check.packet("its REPLY", x, 0, 0, 4, (62 + i) % 64, 1);
                    x.deliver(0);
                    check.same("with the cell of then", 100 + i, x.cell(0, 0));
                }
            }
            check.same("not added again", 7, x.cell(1, 0));
            check.same("EXPECTED", (62 + done) % 64, x.pair(1, 4));
        }
    }

    private static void keepsAddsThroughOtherRequests() {
        check.sentence("an ADD by the same REPLY as before, if its number is that of one of the latest two ADDs that were done");
        RemoteReach x = open(0);
        x.store(1, 0, 50);
        come(x, 3, 1, 0);
        for (int i = 1; i < 31; i++) {
            come(x, 1 + i % 2, 1, i);
            Links.loseFrom(x, 0);
        }
        come(x, 3, 1, 0);
        check.packet("an ADD behind 30 others, d = 33", x, 0, 0, 4, 0, 1);
        x.deliver(0);
        check.same("with the cell of then", 50, x.cell(0, 0));

        RemoteReach y = open(0);
        come(y, 3, 1, 0);
        come(y, 3, 1, 0);
        come(y, 3, 1, 0);
        check.same("copies are not ADDs that were done", 3, y.packets());
        come(y, 3, 1, 1);
        Links.loseFrom(y, 0);
        come(y, 3, 1, 0);
        check.packet("so the first is one of two still", y, 0, 0, 4, 0, 1);
        Links.loseFrom(y, 0);
        Links.restart(y, 1, 40, 2);
        come(y, 3, 1, 1);
        check.same("a pair that starts anew has done none", 0, y.packets());
    }

    private static void keepsAddsOfTwoRounds() {
        check.sentence("an ADD by the same REPLY as before, if its number is that of one of the latest two ADDs that were done");
        RemoteReach x = open(0);
        x.store(1, 0, 50);
        x.add(0, 0, 0, 0, 1);
        x.push(0);
        Links.deliverAll(x);
        for (int i = 0; i < 21; i++) {
            x.move(0, true, 0, 12, 0, 0);
            x.push(0);
            Links.deliverAll(x);
        }
        check.same("EXPECTED has come round", 0, x.pair(1, 4));
        x.add(0, 0, 0, 0, 1);
        x.push(0);
        x.spoil(0, true);
        x.deliver(0);
        x.spoil(1, false);
        x.deliver(0);
        x.deliver(0);
        check.same("the REPLY to the one that was copied", 51, x.cell(0, 0));
        check.same("done twice in all", 52, x.cell(1, 0));
    }

    private static void answersNothingInOtherCases() {
        check.sentence("in other cases by nothing.");
        for (int d : new int[] {32, 33, 62, 63}) {
            RemoteReach x = open(0);
            Links.fill(x, 1, 0, 4, 60);
            Links.restart(x, 1, 40, 5);
            String before = Links.standing(x);
            come(x, 3, 1, (5 + d) % 64);
            check.same("an ADD that was never done, d = " + d, 0, x.packets());
            x.region(1, 0, 0, 32, 5);
            come(x, 2, 12, (5 + d) % 64);
            check.same("a READ that isn't allowed, d = " + d, 0, x.packets());
            Links.restart(x, 0, 0, 40);
            check.text("nothing is done", before, Links.standing(x));
        }
    }

    private static void refusesASendWithoutAReceive() {
        check.sentence("a FIRST one takes the first receive for its request: if there is none, a NAK NOT READY with p is sent (nothing else)");
        for (int n : new int[] {1, 4, 5, 12}) {
            RemoteReach x = open(63);
            x.store(0, 0, 9);
            x.send(0, 0, n);
            x.push(0);
            String before = Links.picture(x);
            x.deliver(0);
            check.packet("NAK NOT READY", x, 0, 0, 6, 63, 0, 2);
            check.same("packets()", 1, x.packets());
            x.spoil(0, false);
            Links.restart(x, 0, 63, 40);
            x.send(0, 0, n);
            x.push(0);
            check.text("nothing else", before, Links.picture(x));
            x.receive(1, 0, 12);
            x.deliver(0);
            check.packet("with a receive", x, 0, 0, 5, 63);
            check.same("the receive is begun or done", n > 4 ? 1 : 0, x.pair(1, 6));
        }
        RemoteReach x = open(0);
        x.receive(0, 0, 12);
        x.receive(3, 0, 12);
        come(x, 0, 1, 0);
        check.same("another pair's receives are not its own", 2, x.packet(0, 4));
    }

    private static void refusesASendThatFindsNoRoom() {
        check.sentence("If its cells don't all find room in what the receive has left: a NAK LENGTH with p is sent, and the pair FAILS with status 4 for the receive.");
        for (int n = 1; n <= 4; n++) {
            for (int room = 1; room <= 4; room++) {
                RemoteReach x = open(63);
                Links.fill(x, 0, 0, 4, 20);
                x.receive(1, 8, room);
                x.receive(1, 16, 12);
                x.send(0, 0, n);
                x.push(0);
                x.deliver(0);
                String what = n + " cells to " + room;
                if (n <= room) {
                    check.packet(what, x, 0, 0, 5, 63);
                    check.completion(what, x, 1, 1, 4, 0, 0, n);
                    check.same(what + ": state", 1, x.pair(1, 0));
                } else {
                    check.packet(what, x, 0, 0, 6, 63, 0, 4);
                    check.same(what + ": state", 2, x.pair(1, 0));
                    check.completion(what, x, 1, 1, 4, 0, 4, 0);
                    check.completion(what + ", the other", x, 1, 1, 4, 1, 5, 0);
                }
                for (int i = 0; i < 4; i++) {
                    check.same(what + ": cell " + i, n <= room && i < n ? 20 + i : 0, x.cell(1, 8 + i));
                }
            }
        }
    }

    private static void refusesALaterPartThatFindsNoRoom() {
        check.sentence("If its cells don't all find room in what the receive has left: a NAK LENGTH with p is sent, and the pair FAILS with status 4 for the receive.");
        for (int n = 5; n <= 12; n++) {
            for (int room = 4; room <= 12; room++) {
                RemoteReach x = open(62);
                Links.fill(x, 0, 0, n, 20);
                x.receive(1, 8, room);
                x.send(0, 0, n);
                Links.pushAll(x, 0);
                Links.deliverAll(x);
                int came = n <= room ? n : room / 4 * 4;
                String what = n + " cells to " + room;
                check.same(what + ": state", n <= room ? 1 : 2, x.pair(1, 0));
                check.completion(what, x, 1, 1, 4, 0, n <= room ? 0 : 4, came);
                check.completion(what, x, 0, 0, 0, 0, n <= room ? 0 : 4, n);
                for (int i = 0; i < 12; i++) {
                    check.same(what + ": cell " + i, i < came ? 20 + i : 0, x.cell(1, 8 + i));
                }
            }
        }
    }

    private static void takesCellsOneBehindTheOther() {
        check.sentence("Else the cells go to the receive's, one behind the other, and the LAST completes it, with how many cells came.");
        for (int n = 1; n <= 12; n++) {
            RemoteReach x = open(0);
            Links.fill(x, 0, 0, 12, 30);
            x.receive(1, 20, 12);
            x.send(0, 0, n);
            Links.pushAll(x, 0);
            int parts = x.packets();
            for (int k = 0; k < parts; k++) {
                check.same("not completed before the LAST", 0, x.completions(1));
                x.deliver(0);
            }
            check.completion("completed by the LAST", x, 1, 1, 4, 0, 0, n);
            check.same("receives", 0, x.pair(1, 6));
            for (int i = 0; i < 12; i++) {
                check.same("cell " + i + " of " + n, i < n ? 30 + i : 0, x.cell(1, 20 + i));
            }
        }
    }

    private static void dropsPartsThatDoNotFit() {
        check.sentence("(A SEND that isn't FIRST where no receive was begun, or a FIRST one where one was begun and not completed, is dropped.)");
        for (int receives = 0; receives <= 1; receives++) {
            for (int part = 1; part <= 2; part++) {
                RemoteReach x = open(0);
                Links.restart(x, 1, 40, part);
                if (receives == 1) {
                    x.receive(1, 0, 12);
                }
                x.send(0, 0, 12);
                Links.pushAll(x, 0);
                x.deliver(part);
                check.same("part " + part + " with " + receives + " receives: no answer", 2, x.packets());
                check.same("EXPECTED", part, x.pair(1, 4));
                check.same("receives", receives, x.pair(1, 6));
                check.same("state", 1, x.pair(1, 0));
            }
        }
        for (int n : new int[] {1, 8, 12}) {
            RemoteReach x = open(0);
            x.receive(1, 0, 8);
            x.receive(1, 8, 12);
            x.send(0, 0, 8);
            x.push(0);
            x.deliver(0);
            Links.loseFrom(x, 0);
            come(x, 0, n, 1);
            check.same("a FIRST one of " + n + " where one was begun: no answer", 0, x.packets());
            check.same("EXPECTED", 1, x.pair(1, 4));
            check.same("receives", 2, x.pair(1, 6));
            Links.restart(x, 0, 0, 40);
            x.send(0, 0, 8);
            Links.pushAll(x, 0);
            x.spoil(0, false);
            x.deliver(0);
            check.packet("the awaited part", x, 0, 0, 5, 1);
            come(x, 0, n, 2);
            check.packet("a FIRST one where one was completed", x, 1, 0, 5, 2);
        }
    }

    private static void writesItsCells() {
        check.sentence("WRITE: its cells are written.");
        for (int n = 1; n <= 12; n++) {
            for (int place : new int[] {0, 32 - n}) {
                RemoteReach x = open(0);
                Links.fill(x, 0, 0, 12, 40);
                x.move(0, false, 0, n, 0, place);
                Links.pushAll(x, 0);
                Links.deliverAll(x);
                for (int i = 0; i < 32; i++) {
                    boolean written = i >= place && i < place + n;
                    check.same(n + " at " + place + ": cell " + i, written ? 40 + i - place : 0, x.cell(1, i));
                }
            }
        }
    }

    private static void repliesWithWhatIsLeft() {
        check.sentence("READ: REPLIES are sent for its numbers, with 4 cells each or what is left.");
        for (int n = 1; n <= 12; n++) {
            RemoteReach x = open(62);
            Links.fill(x, 1, 32 - n, n, 40);
            x.move(0, true, 3, n, 0, 32 - n);
            x.push(0);
            x.deliver(0);
            int parts = (n + 3) / 4;
            check.same("REPLIES to " + n, parts, x.packets());
            for (int k = 0; k < parts; k++) {
                check.packet("REPLY " + k + " to " + n, x, k, 0, 4, (62 + k) % 64, Math.min(4, n - 4 * k), -1, -1);
            }
            Links.deliverAll(x);
            for (int i = 0; i < 12; i++) {
                check.same("cell " + i + " of " + n, i < n ? 40 + i : 0, x.cell(0, 3 + i));
            }
        }
    }

    private static void growsRoundTheInts() {
        check.sentence("ADD: a REPLY with the cell is sent, and the cell grows by the int (modulo 2 to the 32).");
        int[][] cases = {{0, 0, 0}, {5, -6, -1}, {MAX, 1, MIN}, {MIN, -1, MAX}, {MIN, MIN, 0}, {MAX, MAX, -2}, {-1, 1, 0}};
        for (int[] c : cases) {
            RemoteReach x = open(0);
            x.store(1, 31, c[0]);
            x.add(0, 0, 0, 31, c[1]);
            x.push(0);
            x.deliver(0);
            check.same(c[0] + " grows by " + c[1], c[2], x.cell(1, 31));
            check.packet("its REPLY", x, 0, 0, 4, 0, 1, -1, -1);
            x.deliver(0);
            check.same("what was there", c[0], x.cell(0, 0));
        }
    }

    private static void wantsTheRegionTheCellsAndTheRight() {
        check.sentence("For these three the region must be there, have all the cells, and the right; else a NAK ACCESS with p is sent, and the pair FAILS (no request with a status).");
        int[][] cases = {
            {1, 8, 4, 1, 1}, {1, 8, 0, 7, 0}, {1, 8, 3, 7, 0}, {1, 9, 4, 7, 0}, {1, 0, 32, 6, 0},
            {2, 8, 4, 2, 1}, {2, 8, 0, 7, 0}, {2, 8, 3, 7, 0}, {2, 9, 4, 7, 0}, {2, 0, 32, 5, 0},
            {3, 8, 1, 4, 1}, {3, 8, 0, 7, 0}, {3, 7, 1, 7, 0}, {3, 9, 4, 7, 0}, {3, 0, 32, 3, 0}};
        int[] answers = {0, 5, 4, 4};
        int[] cells = {0, 50, 9, 10};
        for (int[] c : cases) {
            RemoteReach x = open(63);
            x.region(1, 0, c[1], c[2], c[3]);
            Links.fill(x, 0, 0, 4, 50);
            x.store(1, 8, 9);
            Links.post(x, 0, c[0], 0, 4, 0, 8);
            x.push(0);
            x.deliver(0);
            boolean allowed = c[4] == 1;
            String what = "kind " + c[0] + ", base " + c[1] + ", length " + c[2] + ", rights " + c[3];
            check.same(what + ": state", allowed ? 1 : 2, x.pair(1, 0));
            check.same(what + ": packets()", 1, x.packets());
            check.packet(what, x, 0, 0, allowed ? answers[c[0]] : 6, 63);
            check.same(what + ": REASON", allowed ? -1 : 3, x.packet(0, 4));
            check.same(what + ": nothing is completed", 0, x.completions(1));
            check.same(what + ": cell", allowed ? cells[c[0]] : 9, x.cell(1, 8));
        }
    }

    private static void writesTheFirstPartOfAWriteThatFailsLater() {
        check.sentence("For these three the region must be there, have all the cells, and the right; else a NAK ACCESS with p is sent, and the pair FAILS (no request with a status).");
        for (int length = 0; length <= 12; length++) {
            RemoteReach x = open(62);
            x.region(1, 0, 20, length, 1);
            Links.fill(x, 0, 0, 12, 50);
            x.move(0, false, 0, 12, 0, 20);
            Links.pushAll(x, 0);
            for (int i = 0; i < 3; i++) {
                x.deliver(0);
            }
            int parts = length / 4;
            for (int k = 0; k < parts; k++) {
                check.packet("part " + k, x, k, 0, 5, (62 + k) % 64);
            }
            if (parts < 3) {
                check.packet("the part that isn't in it", x, parts, 0, 6, (62 + parts) % 64, 0, 3);
            }
            check.same("packets()", Math.min(3, parts + 1), x.packets());
            for (int i = 0; i < 12; i++) {
                check.same("length " + length + ", cell " + i, i < 4 * parts ? 50 + i : 0, x.cell(1, 20 + i));
            }
        }
    }

    private static void failsWithoutARequestsStatus() {
        check.sentence("else a NAK ACCESS with p is sent, and the pair FAILS (no request with a status)");
        RemoteReach x = open(0);
        x.receive(1, 0, 12);
        x.receive(1, 0, 12);
        x.move(1, true, 0, 9, 0, 0);
        x.push(1);
        x.spoil(0, false);
        x.send(1, 0, 3);
        x.move(0, false, 0, 1, 1, 0);
        x.push(0);
        x.deliver(0);
        check.packet("NAK ACCESS", x, 0, 0, 6, 0, 0, 3);
        check.completion("first request", x, 1, 1, 2, 0, 5, 9);
        check.completion("second request", x, 1, 1, 0, 1, 5, 3);
        check.completion("first receive", x, 1, 1, 4, 0, 5, 0);
        check.completion("second receive", x, 1, 1, 4, 1, 5, 0);
        check.same("completions(1)", 0, x.completions(1));
    }

    private static void goesBehindItsNumbers() {
        check.sentence("When it is done: EXPECTED goes behind its numbers, and a SEND or WRITE is answered by an ACK with p.");
        for (int n = 1; n <= 12; n++) {
            for (int kind = 0; kind < 4; kind++) {
                RemoteReach x = open(63);
                x.receive(1, 0, 12);
                Links.post(x, 0, kind, 0, n, 0, 0);
                x.push(0);
                x.deliver(0);
                int numbers = kind == 2 ? (n + 3) / 4 : 1;
                check.same("EXPECTED after kind " + kind + " of " + n, (63 + numbers) % 64, x.pair(1, 4));
                check.packet("its answer", x, 0, 0, kind < 2 ? 5 : 4, 63);
                check.same("packets()", numbers, x.packets());
            }
        }
    }
}
