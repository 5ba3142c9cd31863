/** The edges that "WHAT COMES" names for packets that answer: REPLY, ACK and NAK. */
public final class EdgesOfAnswersTest {
    private static final Check check = new Check();
    private static final int OLDEST = 61;
    private static final int NOT_READY = 2;

    /**
     * Requests of pair 0, by kind and how many numbers they take, from 61 on, so that they go round;
     * how many packets of them are sent; and how many numbers an ACK with each of the sent numbers answers.
     */
    private record Scene(String name, int[][] requests, int pushes, int[] acked) {
        int numbers() {
            int all = 0;
            for (int[] r : requests) {
                all += r[1];
            }
            return all;
        }

        boolean awaitsReply() {
            return acked.length > 0 && requests[0][0] >= 2;
        }
    }

    private static final Scene WRITES =
        new Scene("three WRITEs", new int[][] {{1, 3}, {1, 3}, {1, 2}}, 8, new int[] {1, 2, 3, 4, 5, 6, 7, 8});
    private static final Scene READ = new Scene("a READ of three", new int[][] {{2, 3}}, 1, new int[] {0, 0, 0});
    private static final Scene[] SCENES = {
        WRITES,
        READ,
        new Scene("nothing posted", new int[][] {}, 0, new int[] {}),
        new Scene("nothing sent", new int[][] {{1, 3}}, 0, new int[] {}),
        new Scene("a READ not sent", new int[][] {{2, 1}}, 0, new int[] {}),
        new Scene("one of three sent", new int[][] {{1, 3}}, 1, new int[] {1}),
        new Scene("SENDs, one part not sent", new int[][] {{0, 3}, {0, 3}, {0, 3}}, 8, new int[] {1, 2, 3, 4, 5, 6, 7, 8}),
        new Scene("a READ between", new int[][] {{1, 1}, {2, 2}, {1, 1}}, 3, new int[] {1, 1, 1, 1}),
        new Scene("a READ first", new int[][] {{2, 2}, {1, 1}}, 2, new int[] {0, 0, 0}),
        new Scene("an ADD behind a WRITE", new int[][] {{1, 2}, {3, 1}, {0, 1}}, 4, new int[] {1, 2, 2, 2}),
        new Scene("an ADD of two sent", new int[][] {{3, 1}, {3, 1}}, 1, new int[] {0})};

    public static void main(String[] args) {
        takesAcksFromOldestToBeforeTheCursor();
        takesRepliesForOldestAlone();
        takesNoMoreCellsThanTheRequestHas();
        takesNaksFromOldestToBeforeTheCursor();
        goesBackBySequence();
        restsByNotReady();
        failsByOneNotReadyTooMany();
        failsByAccessAndLength();
        dropsAllOthers();
        setsTheClockWhenAnswered();
        setsTheTriesWhenAnswered();
        setsTheNotReadysWhenAnswered();
        setsThemWhenAPartOfARequestIsAnswered();
        setsThemByANakThatAnswersUpToARead();
        setsNothingWhenNothingIsAnswered();
        completesWhenAllNumbersAreAnswered();
        check.end();
    }

    private static RemoteReach open(int timeout, int tries, int refusals) {
        RemoteReach x = Links.linked(timeout, tries, refusals);
        x.region(1, 0, 0, 32, 7);
        return x;
    }

    /** The scene of pair 0 stands, and the one packet is an answer for it. */
    private static RemoteReach set(Scene scene, int kind, int reason, int number) {
        RemoteReach x = new RemoteReach(5, 2, 2);
        Links.fill(x, 1, 28, 4, 90);
        Links.leaveAnswer(x, kind, reason, number);
        x.ready(0, OLDEST, 0);
        for (int[] r : scene.requests) {
            Links.post(x, 0, r[0], 0, 4 * r[1], 0, 0);
        }
        for (int i = 0; i < scene.pushes; i++) {
            x.push(0);
        }
        Links.loseFrom(x, 1);
        return x;
    }

    /** Where the cursor is so many numbers behind 61, and so many numbers are answered. */
    private static void checkStands(String what, RemoteReach x, Scene scene, int answered, int cursor) {
        check.same(what + ": state", 1, x.pair(0, 0));
        check.numbers(what, x, 0, (OLDEST + scene.numbers()) % 64, (OLDEST + answered) % 64, (OLDEST + cursor) % 64, 0);
        check.same(what + ": packets()", 0, x.packets());
        int done = checkDone(what, x, scene, answered);
        check.same(what + ": requests", scene.requests.length - done, x.pair(0, 5));
        check.same(what + ": completions", 0, x.completions(0));
    }

    /** The requests within so many numbers are completed with status 0, in order: how many. */
    private static int checkDone(String what, RemoteReach x, Scene scene, int answered) {
        int done = 0;
        int end = 0;
        for (int[] r : scene.requests) {
            end += r[1];
            if (end <= answered) {
                check.completion(what, x, 0, 0, r[0], done, 0, r[0] == 3 ? 1 : 4 * r[1]);
                done++;
            }
        }
        return done;
    }

    private static void takesAcksFromOldestToBeforeTheCursor() {
        check.sentence("An ACK with p, where p is one of the numbers from OLDEST to before the cursor: all up to p are ANSWERED, but none from the first on that belongs to a READ or ADD.");
        for (Scene scene : SCENES) {
            for (int p = 0; p < 64; p++) {
                RemoteReach x = set(scene, Links.ACK, 0, p);
                x.deliver(0);
                int at = (p - OLDEST) & 63;
                int answered = at < scene.acked.length ? scene.acked[at] : 0;
                checkStands(scene.name + ", ACK " + p, x, scene, answered, scene.acked.length);
            }
        }
    }

    private static void takesRepliesForOldestAlone() {
        check.sentence("A REPLY with p: if p is OLDEST, before the cursor, and belongs to a READ or ADD, its cells (no more than the request has for p) go into the memory, and p is answered.");
        for (Scene scene : SCENES) {
            for (int p = 0; p < 64; p++) {
                RemoteReach x = set(scene, Links.REPLY, 0, p);
                x.deliver(0);
                boolean taken = p == OLDEST && scene.awaitsReply();
                String what = scene.name + ", REPLY " + p;
                checkStands(what, x, scene, taken ? 1 : 0, scene.acked.length);
                int cells = !taken ? 0 : scene.requests[0][0] == 3 ? 1 : 4;
                for (int i = 0; i < 5; i++) {
                    check.same(what + ": cell " + i, i < cells ? 90 + i : 0, x.cell(0, i));
                }
            }
        }
    }

    private static void takesNoMoreCellsThanTheRequestHas() {
        check.sentence("its cells (no more than the request has for p) go into the memory");
        for (int n = 1; n <= 12; n++) {
            for (int k = 0; 4 * k < n; k++) {
                RemoteReach x = readUpTo(n, k);
                x.deliver(0);
                int has = Math.min(4, n - 4 * k);
                for (int i = 0; i < 4; i++) {
                    int due = i < has ? 90 + i : 0;
                    check.same(n + " cells, number " + k + ", its cell " + i, due, x.cell(0, 10 + 4 * k + i));
                }
                check.same("p is answered", (OLDEST + k + 1) % 64, x.pair(0, 2));
            }
        }
        RemoteReach x = new RemoteReach(5, 2, 2);
        x.region(1, 0, 0, 32, 7);
        x.store(1, 0, 7);
        x.ready(0, 0, 0);
        x.ready(1, 0, 0);
        x.add(0, 0, 0, 0, 1);
        x.push(0);
        x.deliver(0);
        Links.restart(x, 0, 0, 0);
        Links.fill(x, 0, 20, 4, 30);
        x.move(0, true, 20, 4, 0, 0);
        x.push(0);
        x.deliver(0);
        check.same("a REPLY with one cell", 7, x.cell(0, 20));
        check.same("leaves the second", 31, x.cell(0, 21));
        check.same("and answers all the same", 1, x.pair(0, 2));
    }

    /** A READ of n cells to cell 10, of which k numbers are answered (with 0s); a REPLY with 4 cells lies there for the next. */
    private static RemoteReach readUpTo(int n, int k) {
        RemoteReach x = new RemoteReach(5, 2, 2);
        x.region(1, 0, 0, 20, 7);
        Links.fill(x, 1, 28, 4, 90);
        Links.leaveAnswer(x, Links.REPLY, 0, (OLDEST + k) % 64);
        x.ready(0, OLDEST, 0);
        x.ready(1, 0, OLDEST);
        x.move(0, true, 10, n, 0, 0);
        x.push(0);
        x.deliver(1);
        for (int i = 0; i < k; i++) {
            x.deliver(1);
        }
        Links.loseFrom(x, 1);
        return x;
    }

    private static void takesNaksFromOldestToBeforeTheCursor() {
        check.sentence("A NAK with p, one of those numbers: first as an ACK with the number before p (if that is one of them); then, if p is OLDEST");
        for (Scene scene : SCENES) {
            for (int reason = 1; reason <= 4; reason++) {
                for (int p = 0; p < 64; p++) {
                    RemoteReach x = set(scene, Links.NAK, reason, p);
                    x.deliver(0);
                    checkNak(x, scene, reason, p);
                }
            }
        }
    }

    private static void checkNak(RemoteReach x, Scene scene, int reason, int p) {
        int at = (p - OLDEST) & 63;
        boolean open = at < scene.acked.length;
        int answered = open && at > 0 ? scene.acked[at - 1] : 0;
        boolean meant = open && answered == at;
        String what = scene.name + ", NAK " + reason + " with " + p;
        check.same(what + ": RESTING", meant && reason == NOT_READY ? 1 : 0, x.pair(0, 7));
        if (!meant || reason <= NOT_READY) {
            checkStands(what, x, scene, answered, meant ? answered : scene.acked.length);
            return;
        }
        check.same(what + ": state", 2, x.pair(0, 0));
        int done = checkDone(what, x, scene, answered);
        for (int i = done; i < scene.requests.length; i++) {
            int[] r = scene.requests[i];
            check.completion(what, x, 0, 0, r[0], i, i == done ? reason : 5, r[0] == 3 ? 1 : 4 * r[1]);
        }
        check.same(what + ": completions", 0, x.completions(0));
    }

    private static void goesBackBySequence() {
        check.sentence("SEQUENCE: the cursor is OLDEST.");
        for (int lost = 0; lost < 7; lost++) {
            RemoteReach x = open(20, 0, 0);
            x.move(0, false, 0, 12, 0, 0);
            x.move(0, false, 0, 12, 0, 0);
            x.move(0, false, 0, 8, 0, 0);
            Links.pushAll(x, 0);
            x.spoil(lost, false);
            for (int i = 0; i < 7; i++) {
                x.deliver(0);
            }
            Links.deliverAll(x);
            check.numbers("the number " + lost + " is lost", x, 0, 8, lost, lost, 0);
            check.same("not RESTING", 0, x.pair(0, 7));
            check.same("it goes again at once", lost, x.push(0));
            Links.pushAll(x, 0);
            Links.deliverAll(x);
            check.numbers("and all is answered", x, 0, 8, 8, 8, 0);
        }
    }

    private static void restsByNotReady() {
        check.sentence("NOT READY: the cursor is OLDEST, the pair is RESTING until its clock is 3 (set to 0 now)");
        for (int clock = 0; clock < 5; clock++) {
            RemoteReach x = open(5, 0, 7);
            x.send(0, 0, 12);
            Links.pushAll(x, 0);
            Links.tick(x, clock);
            x.deliver(0);
            x.deliver(2);
            check.numbers("the cursor", x, 0, 3, 0, 0, 0);
            for (int i = 0; i < 3; i++) {
                check.same("RESTING, " + i + " ticks", 1, x.pair(0, 7));
                x.tick();
            }
            check.same("no more, 3 ticks", 0, x.pair(0, 7));
            check.same("no try was counted", 1, x.pair(0, 0));
        }
    }

    private static void failsByOneNotReadyTooMany() {
        check.sentence("and has one NOT READY more; if that makes more than allowed, it FAILS with status 2");
        for (int allowed = 0; allowed <= 7; allowed++) {
            RemoteReach x = open(20, 0, allowed);
            x.receive(0, 0, 1);
            x.send(0, 0, 7);
            x.send(0, 0, 1);
            for (int i = 0; i <= allowed; i++) {
                check.same("state after " + i + " of " + allowed, 1, x.pair(0, 0));
                check.same("completions", 0, x.completions(0));
                check.same("push", 0, x.push(0));
                Links.deliverAll(x);
                Links.tick(x, 3);
            }
            check.same("state after one more than " + allowed, 2, x.pair(0, 0));
            check.same("RESTING since then, which only a reset ends", 1, x.pair(0, 7));
            check.completion("first", x, 0, 0, 0, 0, 2, 7);
            check.completion("other", x, 0, 0, 0, 1, 5, 1);
            check.completion("receive", x, 0, 0, 4, 0, 5, 0);
            check.same("completions", 0, x.completions(0));
            Links.tick(x, 3);
            check.same("a FAILED pair's clock doesn't grow", 1, x.pair(0, 7));
            x.reset(0);
            check.same("not RESTING", 0, x.pair(0, 7));
        }
    }

    private static void failsByAccessAndLength() {
        check.sentence("ACCESS and LENGTH: it FAILS with status 3, or 4.");
        for (int kind = 1; kind <= 3; kind++) {
            RemoteReach x = open(5, 7, 7);
            Links.post(x, 0, kind, 0, 3, 5, 0);
            x.push(0);
            Links.deliverAll(x);
            check.same("kind " + kind + ": state", 2, x.pair(0, 0));
            check.completion("kind " + kind, x, 0, 0, kind, 0, 3, kind == 3 ? 1 : 3);
        }
        RemoteReach x = open(5, 7, 7);
        x.receive(1, 0, 2);
        x.send(0, 0, 3);
        x.push(0);
        Links.deliverAll(x);
        check.same("LENGTH: state", 2, x.pair(0, 0));
        check.completion("LENGTH", x, 0, 0, 0, 0, 4, 3);
        check.completion("LENGTH, the receive", x, 1, 1, 4, 0, 4, 0);
    }

    private static void dropsAllOthers() {
        check.sentence("All other packets are dropped.");
        int[] numbers = {OLDEST - 1, (OLDEST + 8) % 64, (OLDEST + 9) % 64, (OLDEST + 32) % 64};
        for (int p : numbers) {
            for (int reason = 0; reason <= 5; reason++) {
                int kind = reason == 0 ? Links.ACK : reason == 5 ? Links.REPLY : Links.NAK;
                checkChangesNothing("kind " + kind + " with " + p, set(WRITES, kind, reason, p));
            }
        }
        for (int p = 0; p < 8; p++) {
            checkChangesNothing("a REPLY for a WRITE", set(WRITES, Links.REPLY, 0, (OLDEST + p) % 64));
        }
        for (int p = 1; p < 3; p++) {
            checkChangesNothing("a REPLY that isn't OLDEST's", set(READ, Links.REPLY, 0, (OLDEST + p) % 64));
            for (int reason = 1; reason <= 4; reason++) {
                checkChangesNothing("a NAK behind a READ", set(READ, Links.NAK, reason, (OLDEST + p) % 64));
            }
        }
    }

    private static void checkChangesNothing(String what, RemoteReach x) {
        String before = Links.standing(x);
        check.yes(what + ": deliver", x.deliver(0));
        check.text(what, before, Links.standing(x));
        check.same(what + ": it is gone", 0, x.packets());
    }

    /** Two WRITEs, an ADD and a WRITE are sent, and come; their answers lie there, for numbers 0 to 3. */
    private static RemoteReach withAnswers(int timeout, int tries) {
        RemoteReach x = open(timeout, tries, 7);
        x.move(0, false, 0, 1, 0, 0);
        x.move(0, false, 0, 1, 0, 0);
        x.add(0, 0, 0, 0, 1);
        x.move(0, false, 0, 1, 0, 0);
        Links.pushAll(x, 0);
        return x;
    }

    private static void comeAll(RemoteReach x, int n) {
        for (int i = 0; i < n; i++) {
            x.deliver(0);
        }
    }

    private static void setsTheClockWhenAnswered() {
        check.sentence("When numbers are answered: OLDEST goes behind them, the clock and the numbers of tries and of NOT READYs are 0, it isn't RESTING");
        RemoteReach x = withAnswers(5, 0);
        comeAll(x, 4);
        for (int i = 0; i < 4; i++) {
            check.same("no tick fails it", 0, x.tick() + x.tick() + x.tick() + x.tick());
            x.deliver(0);
            check.same("OLDEST", i + 1, x.pair(0, 2));
        }
        check.same("nothing is out then", 0, x.tick() + x.tick() + x.tick() + x.tick() + x.tick());

        RemoteReach y = withAnswers(5, 1);
        y.deliver(0);
        y.spoil(0, false);
        y.deliver(0);
        Links.tick(y, 4);
        check.packet("a NAK SEQUENCE", y, 2, 0, 6, 1, 0, 1);
        y.deliver(2);
        check.numbers("answered by the NAK", y, 0, 4, 1, 1, 0);
        y.push(0);
        check.same("the clock is 0", 0, y.tick() + y.tick() + y.tick() + y.tick());
        check.same("the cursor", 2, y.pair(0, 3));
        y.tick();
        check.same("back", 1, y.pair(0, 3));
    }

    private static void setsTheTriesWhenAnswered() {
        check.sentence("When numbers are answered: OLDEST goes behind them, the clock and the numbers of tries and of NOT READYs are 0, it isn't RESTING");
        RemoteReach x = withAnswers(2, 1);
        for (int i = 0; i < 3; i++) {
            Links.loseFrom(x, 0);
            check.same("a timeout", 0, x.tick() + x.tick());
            Links.pushAll(x, 0);
            x.deliver(0);
            x.deliver(x.packets() - 1);
            check.same("one is answered", i + 1, x.pair(0, 2));
        }
        Links.loseFrom(x, 0);
        check.same("a timeout", 0, x.tick() + x.tick());
        Links.pushAll(x, 0);
        check.same("a second one without an answer", 1, x.tick() + x.tick());
    }

    private static void setsTheNotReadysWhenAnswered() {
        check.sentence("When numbers are answered: OLDEST goes behind them, the clock and the numbers of tries and of NOT READYs are 0, it isn't RESTING");
        RemoteReach x = open(20, 0, 1);
        for (int i = 0; i < 4; i++) {
            x.send(0, 0, 1);
            x.push(0);
            Links.deliverAll(x);
            check.same("RESTING", 1, x.pair(0, 7));
            Links.tick(x, 3);
            x.receive(1, 0, 1);
            x.push(0);
            Links.deliverAll(x);
            check.numbers("answered", x, 0, i + 1, i + 1, i + 1, 0);
        }
        RemoteReach y = open(20, 0, 1);
        y.send(0, 0, 1);
        y.send(0, 0, 1);
        y.push(0);
        Links.deliverAll(y);
        Links.tick(y, 3);
        y.receive(1, 0, 1);
        Links.pushAll(y, 0);
        comeAll(y, 2);
        y.spoil(0, false);
        check.packet("a NAK NOT READY with 1", y, 0, 0, 6, 1, 0, 2);
        y.deliver(0);
        check.same("the first is answered by it, so it is the first NOT READY", 1, y.pair(0, 0));
        check.same("RESTING", 1, y.pair(0, 7));
    }

    private static void setsThemWhenAPartOfARequestIsAnswered() {
        check.sentence("When numbers are answered: OLDEST goes behind them, the clock and the numbers of tries and of NOT READYs are 0, it isn't RESTING");
        for (int kind = 1; kind <= 2; kind++) {
            RemoteReach x = open(4, 1, 0);
            Links.post(x, 0, kind, 0, 12, 0, 0);
            for (int i = 0; i < 3; i++) {
                x.push(0);
                Links.loseFrom(x, 0);
                check.same("kind " + kind + ": a timeout", 0, x.tick() + x.tick() + x.tick() + x.tick());
                x.push(0);
                x.deliver(0);
                check.same("kind " + kind + ": three ticks more", 0, x.tick() + x.tick() + x.tick());
                x.deliver(0);
                Links.loseFrom(x, 0);
                check.same("kind " + kind + ": OLDEST", i + 1, x.pair(0, 2));
            }
            check.same("kind " + kind + ": done", 0, x.pair(0, 5));
        }

        RemoteReach y = new RemoteReach(20, 0, 1);
        Links.leaveAnswer(y, Links.NAK, NOT_READY, 1);
        y.ready(0, 0, 0);
        y.ready(1, 0, 0);
        y.send(0, 0, 12);
        for (int i = 0; i < 2; i++) {
            y.push(0);
            y.deliver(1);
            y.deliver(1);
            check.same("RESTING for want of a receive", 1 - i, y.pair(0, 7));
            Links.tick(y, 3);
            y.receive(1, 0, 12);
        }
        check.numbers("a part is answered", y, 0, 3, 1, 1, 0);
        y.push(0);
        y.deliver(0);
        check.same("the first NOT READY since then", 1, y.pair(0, 0));
        check.same("RESTING", 1, y.pair(0, 7));
    }

    private static void setsThemByANakThatAnswersUpToARead() {
        check.sentence("first as an ACK with the number before p (if that is one of them); then, if p is OLDEST");
        for (int reason = 1; reason <= 4; reason++) {
            RemoteReach x = new RemoteReach(4, 1, 0);
            Links.leaveAnswer(x, Links.NAK, reason, 2);
            x.ready(0, 0, 0);
            x.move(0, false, 0, 1, 0, 0);
            x.move(0, true, 0, 1, 0, 0);
            x.move(0, false, 0, 1, 0, 0);
            Links.pushAll(x, 0);
            Links.tick(x, 4);
            Links.pushAll(x, 0);
            Links.tick(x, 3);
            x.deliver(0);
            check.numbers("reason " + reason + ": the WRITE before the READ is answered", x, 0, 3, 1, 3, 0);
            check.completion("reason " + reason, x, 0, 0, 1, 0, 0, 1);
            check.same("the clock is 0", 0, x.tick() + x.tick() + x.tick());
            check.same("the cursor", 3, x.pair(0, 3));
            check.same("the tries are 0", 0, x.tick());
            check.same("the cursor is OLDEST", 1, x.pair(0, 3));
        }
    }

    private static void setsNothingWhenNothingIsAnswered() {
        check.sentence("When numbers are answered: OLDEST goes behind them, the clock and the numbers of tries and of NOT READYs are 0, it isn't RESTING");
        RemoteReach x = open(4, 1, 0);
        x.add(0, 0, 0, 0, 1);
        x.move(0, false, 0, 1, 0, 0);
        for (int i = 0; i < 2; i++) {
            Links.pushAll(x, 0);
            Links.tick(x, 3);
            comeAll(x, 2);
            check.packet("an ACK behind an ADD", x, 1, 0, 5, 1);
            x.deliver(1);
            Links.loseFrom(x, 0);
            check.same("leaves the clock and the tries", i, x.tick());
        }

        RemoteReach y = open(4, 1, 1);
        y.move(0, false, 0, 8, 0, 0);
        for (int i = 0; i < 2; i++) {
            Links.pushAll(y, 0);
            Links.restart(y, 1, 0, 0);
            y.spoil(0, false);
            Links.deliverAll(y);
            check.same("a NAK SEQUENCE with OLDEST", 0, y.pair(0, 3));
            Links.pushAll(y, 0);
            Links.loseFrom(y, 0);
            check.same("leaves the tries", i, y.tick() + y.tick() + y.tick() + y.tick());
        }

        RemoteReach z = open(2, 7, 1);
        z.send(0, 0, 1);
        for (int i = 0; i < 2; i++) {
            z.push(0);
            z.spoil(0, false);
            Links.tick(z, 2);
            z.push(0);
            Links.deliverAll(z);
            Links.tick(z, 3);
            check.same("a timeout leaves the NOT READYs", i == 0 ? 1 : 2, z.pair(0, 0));
        }
    }

    private static void completesWhenAllNumbersAreAnswered() {
        check.sentence("requests all of whose numbers are answered complete with status 0, in order");
        for (int kind = 0; kind <= 2; kind++) {
            RemoteReach x = open(5, 0, 0);
            x.receive(1, 0, 12);
            Links.post(x, 0, kind, 0, 12, 0, 0);
            Links.pushAll(x, 0);
            comeAll(x, kind == 2 ? 1 : 3);
            for (int i = 0; i < 3; i++) {
                check.same("kind " + kind + ", " + i + " numbers answered", 0, x.completions(0));
                check.same("requests", 1, x.pair(0, 5));
                x.deliver(0);
            }
            check.same("requests", 0, x.pair(0, 5));
            check.completion("kind " + kind, x, 0, 0, kind, 0, 0, 12);
        }
        RemoteReach y = open(5, 0, 0);
        for (int i = 0; i < 4; i++) {
            y.move(0, false, 0, 5 + i % 2, 0, 0);
        }
        Links.pushAll(y, 0);
        comeAll(y, 8);
        y.deliver(7);
        check.same("all four at once", 4, y.completions(0));
        for (int i = 0; i < 4; i++) {
            check.completion("in order", y, 0, 0, 1, i, 0, 5 + i % 2);
        }
    }
}
