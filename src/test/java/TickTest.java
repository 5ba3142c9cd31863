/** Promise 14. */
public final class TickTest {
    private static final Check check = new Check();

    public static void main(String[] args) {
        countsNothingThatIsNotSent();
        goesBackAfterTheTimeout();
        startsTheClockWhenItSendsOldest();
        startsTheClockWhenOneIsAnswered();
        failsAfterTooManyTries();
        forgetsTriesWhenAnswered();
        countsEachPairThatFails();
        failsPairsByNumber();
        restsForThree();
        countsATryForEachTimeout();
        keepsTheClockWhileNothingIsOut();
        check.end();
    }

    private static RemoteReach open(int timeout, int tries) {
        RemoteReach x = Links.linked(timeout, tries, 7);
        x.region(1, 0, 0, 32, 7);
        return x;
    }

    private static void countsNothingThatIsNotSent() {
        RemoteReach x = open(2, 0);
        x.send(0, 0, 1);
        for (int i = 0; i < 50; i++) {
            check.same("tick()", 0, x.tick());
        }
        check.same("state", 1, x.pair(0, 0));
    }

    private static void goesBackAfterTheTimeout() {
        RemoteReach x = open(4, 2);
        x.send(0, 0, 12);
        x.push(0);
        x.push(0);
        Links.tick(x, 3);
        check.same("the cursor before", 2, x.pair(0, 3));
        check.same("tick()", 0, x.tick());
        check.numbers("the cursor is OLDEST", x, 0, 3, 0, 0, 0);
        check.same("sent again", 0, x.push(0));
    }

    private static void startsTheClockWhenItSendsOldest() {
        RemoteReach x = open(4, 2);
        x.send(0, 0, 8);
        x.push(0);
        Links.tick(x, 2);
        x.push(0);
        Links.tick(x, 1);
        check.same("a later packet leaves the clock alone", 2, x.pair(0, 3));
        x.tick();
        check.same("so the time is over", 0, x.pair(0, 3));

        RemoteReach y = open(4, 2);
        y.move(0, false, 0, 8, 0, 0);
        y.push(0);
        y.push(0);
        y.spoil(0, false);
        Links.tick(y, 3);
        Links.deliverAll(y);
        check.same("back by a NAK SEQUENCE", 0, y.pair(0, 3));
        y.push(0);
        Links.tick(y, 3);
        check.same("the clock is 0 when OLDEST is sent", 1, y.pair(0, 3));
        y.tick();
        check.same("the time is over", 0, y.pair(0, 3));
    }

    private static void startsTheClockWhenOneIsAnswered() {
        RemoteReach x = open(4, 0);
        x.move(0, false, 0, 8, 0, 0);
        x.push(0);
        x.push(0);
        Links.tick(x, 3);
        x.deliver(0);
        x.deliver(1);
        check.same("OLDEST", 1, x.pair(0, 2));
        check.same("tick()", 0, x.tick() + x.tick() + x.tick());
        check.same("tick()", 1, x.tick());
    }

    private static void failsAfterTooManyTries() {
        RemoteReach x = open(3, 2);
        x.receive(0, 0, 2);
        x.send(0, 0, 5);
        x.add(0, 0, 0, 0, 0);
        for (int i = 0; i < 2; i++) {
            x.push(0);
            check.same("tick()", 0, x.tick() + x.tick() + x.tick());
        }
        x.push(0);
        check.same("tick()", 0, x.tick() + x.tick());
        check.same("tick()", 1, x.tick());
        check.same("state", 2, x.pair(0, 0));
        check.completion("the first", x, 0, 0, 0, 0, 1, 5);
        check.completion("the other", x, 0, 0, 3, 1, 5, 1);
        check.completion("the receive", x, 0, 0, 4, 0, 5, 0);
        check.same("tick() when FAILED", 0, x.tick() + x.tick() + x.tick());
    }

    private static void forgetsTriesWhenAnswered() {
        RemoteReach x = open(2, 1);
        for (int i = 0; i < 4; i++) {
            x.move(0, false, 0, 1, 0, 0);
            x.push(0);
            x.spoil(0, false);
            check.same("tick()", 0, x.tick() + x.tick());
            x.push(0);
            Links.deliverAll(x);
            check.same("done", i + 1, x.completions(0));
        }
    }

    private static void countsEachPairThatFails() {
        RemoteReach x = new RemoteReach(2, 0, 0);
        for (int q = 0; q < 4; q++) {
            x.ready(q, 0, 0);
            x.send(q, 0, 1);
            if (q != 2) {
                x.push(q);
            }
        }
        check.same("tick()", 0, x.tick());
        check.same("tick()", 3, x.tick());
        check.same("pair 2", 1, x.pair(2, 0));
        check.same("pair 3", 2, x.pair(3, 0));
    }

    private static void failsPairsByNumber() {
        RemoteReach x = new RemoteReach(2, 0, 0);
        x.ready(2, 0, 0);
        x.ready(0, 0, 0);
        x.send(2, 0, 1);
        x.send(0, 0, 1);
        x.push(2);
        x.push(0);
        x.tick();
        check.same("tick()", 2, x.tick());
        check.completion("first", x, 0, 0, 0, 0, 1, 1);
        check.completion("then", x, 0, 2, 0, 0, 1, 1);
    }

    private static void restsForThree() {
        RemoteReach x = open(2, 0);
        x.send(0, 0, 1);
        x.push(0);
        Links.deliverAll(x);
        for (int i = 0; i < 2; i++) {
            check.same("tick()", 0, x.tick());
            check.same("RESTING", 1, x.pair(0, 7));
        }
        check.same("tick()", 0, x.tick());
        check.same("rested", 0, x.pair(0, 7));
        check.same("nothing is out, so no time passes", 0, x.tick() + x.tick() + x.tick());
        check.same("state", 1, x.pair(0, 0));
        x.push(0);
        check.same("tick()", 0, x.tick());
        check.same("tick()", 1, x.tick());
    }

    private static void countsATryForEachTimeout() {
        RemoteReach x = open(2, 1);
        x.send(0, 0, 1);
        x.push(0);
        Links.tick(x, 2);
        x.spoil(0, false);
        x.push(0);
        Links.deliverAll(x);
        check.same("RESTING", 1, x.pair(0, 7));
        Links.tick(x, 3);
        x.push(0);
        check.same("tick()", 0, x.tick());
        check.same("a NOT READY leaves the tries alone", 1, x.tick());
    }

    private static void keepsTheClockWhileNothingIsOut() {
        RemoteReach x = open(3, 0);
        x.move(0, false, 0, 1, 0, 0);
        x.push(0);
        Links.tick(x, 2);
        Links.deliverAll(x);
        check.same("all answered, so no time passes", 0, x.tick() + x.tick() + x.tick());
        x.move(0, false, 0, 1, 0, 0);
        x.push(0);
        check.same("tick()", 0, x.tick() + x.tick());
        check.same("tick()", 1, x.tick());
    }
}
