/** The edges that "TICKING" names, and those of a pair that FAILS and of its completions. */
public final class EdgesOfTimeTest {
    private static final Check check = new Check();

    public static void main(String[] args) {
        runsOnlyClocksThatAreDue();
        ticksPairsByNumber();
        keepsClocksApart();
        endsARestAt3();
        countsNoTryWhileResting();
        goesBackAtTheTimeout();
        failsByOneTryTooMany();
        waitsForASendingAfterATimeout();
        failsInOrder();
        failsWithEmptyQueues();
        failsABegunReceive();
        doesNothingMoreWhenFailed();
        tellsLengths();
        check.end();
    }

    private static RemoteReach open(int timeout, int tries, int refusals) {
        RemoteReach x = Links.linked(timeout, tries, refusals);
        x.region(1, 0, 0, 32, 7);
        return x;
    }

    private static int ticks(RemoteReach x, int times) {
        int failed = 0;
        for (int i = 0; i < times; i++) {
            failed += x.tick();
        }
        return failed;
    }

    private static void runsOnlyClocksThatAreDue() {
        check.sentence("the clock of each READY pair, by number, whose cursor isn't OLDEST, or that is RESTING, grows by 1.");
        RemoteReach x = open(2, 0, 7);
        x.receive(2, 0, 1);
        check.same("RESET, and READY with nothing posted", 0, ticks(x, 10));
        x.move(0, false, 0, 8, 0, 0);
        check.same("posted, not sent", 0, ticks(x, 10));
        x.push(0);
        check.same("sent", 0, ticks(x, 1));
        Links.deliverAll(x);
        check.same("all that was sent is answered", 0, ticks(x, 10));
        x.push(0);
        check.same("sent", 0, ticks(x, 1));
        check.same("the time is over", 1, ticks(x, 1));
        check.same("FAILED", 0, ticks(x, 10));
        Links.restart(x, 0, 0, 0);
        x.send(0, 0, 1);
        x.push(0);
        x.reset(0);
        check.same("RESET while it was out", 0, ticks(x, 10));
        check.same("state", 0, x.pair(0, 0));
    }

    private static void ticksPairsByNumber() {
        check.sentence("the clock of each READY pair, by number, whose cursor isn't OLDEST, or that is RESTING, grows by 1.");
        RemoteReach x = new RemoteReach(2, 0, 0);
        for (int q = 3; q >= 0; q--) {
            x.ready(q, 0, 0);
            x.send(q, 0, q + 1);
            x.send(q, 0, q + 5);
            x.push(q);
        }
        check.same("tick()", 0, x.tick());
        check.same("all four at once", 4, x.tick());
        for (int q = 0; q < 4; q++) {
            check.completion("the first of pair " + q, x, q % 2, q, 0, 0, 1, q + 1);
            check.completion("the second of pair " + q, x, q % 2, q, 0, 1, 5, q + 5);
        }
    }

    private static void keepsClocksApart() {
        check.sentence("the clock of each READY pair, by number, whose cursor isn't OLDEST, or that is RESTING, grows by 1.");
        RemoteReach x = new RemoteReach(4, 0, 0);
        for (int q = 0; q < 4; q++) {
            x.ready(q, 0, 0);
            x.send(q, 0, 1);
        }
        for (int tick = 0; tick < 7; tick++) {
            x.push(Math.min(tick, 3));
            check.same("tick " + tick, tick < 3 ? 0 : 1, x.tick());
            for (int q = 0; q < 4; q++) {
                check.same("pair " + q + " after tick " + tick, tick < q + 3 ? 1 : 2, x.pair(q, 0));
            }
        }
    }

    private static void endsARestAt3() {
        check.sentence("One that is RESTING and has 3 then isn't any more (the clock is 0).");
        for (int timeout : new int[] {2, 3, 4, 20}) {
            RemoteReach x = open(timeout, 0, 7);
            x.send(0, 0, 1);
            for (int rest = 0; rest < 3; rest++) {
                x.push(0);
                Links.deliverAll(x);
                for (int i = 0; i < 3; i++) {
                    check.same("RESTING after " + i + ", timeout " + timeout, 1, x.pair(0, 7));
                    check.same("push", -1, x.push(0));
                    check.same("tick()", 0, x.tick());
                }
                check.same("no more after 3, timeout " + timeout, 0, x.pair(0, 7));
                check.same("time stands still until it sends", 0, ticks(x, 5));
            }
            check.same("push", 0, x.push(0));
            check.same("the whole timeout is before it", 0, ticks(x, timeout - 1));
            check.same("and then it is over", 1, x.tick());
        }
    }

    private static void countsNoTryWhileResting() {
        check.sentence("One that isn't and has the TIMEOUT then: the clock is 0, it has one try more");
        for (int timeout = 2; timeout <= 3; timeout++) {
            RemoteReach x = open(timeout, 0, 7);
            x.send(0, 0, 1);
            x.push(0);
            Links.deliverAll(x);
            check.same("a rest as long as the timeout " + timeout, 0, ticks(x, 3));
            check.same("state", 1, x.pair(0, 0));
        }
    }

    private static void goesBackAtTheTimeout() {
        check.sentence("One that isn't and has the TIMEOUT then: the clock is 0, it has one try more; if that makes more than allowed, it FAILS with status 1; else the cursor is OLDEST.");
        for (int timeout = 2; timeout <= 20; timeout++) {
            RemoteReach x = open(timeout, 7, 0);
            x.move(0, false, 0, 12, 0, 0);
            Links.pushAll(x, 0);
            x.deliver(0);
            x.deliver(2);
            for (int i = 0; i < 2; i++) {
                check.same("tick()", 0, ticks(x, timeout - 1));
                check.numbers("before it, timeout " + timeout, x, 0, 3, 1, 3, 0);
                check.same("tick()", 0, x.tick());
                check.numbers("the cursor is OLDEST, timeout " + timeout, x, 0, 3, 1, 1, 0);
                check.same("not RESTING", 0, x.pair(0, 7));
                check.same("sent again", 1, x.push(0));
                check.same("sent again", 2, x.push(0));
            }
        }
    }

    private static void failsByOneTryTooMany() {
        check.sentence("it has one try more; if that makes more than allowed, it FAILS with status 1; else the cursor is OLDEST.");
        for (int tries = 0; tries <= 7; tries++) {
            for (int kind = 0; kind < 4; kind++) {
                RemoteReach x = open(2, tries, 0);
                Links.post(x, 0, kind, 0, 5, 0, 0);
                for (int i = 0; i <= tries; i++) {
                    check.same("state after " + i + " of " + tries, 1, x.pair(0, 0));
                    check.same("push", 0, x.push(0));
                    check.same("tick()", 0, x.tick());
                    check.same("tick()", i == tries ? 1 : 0, x.tick());
                }
                check.same("state after one more than " + tries, 2, x.pair(0, 0));
                check.completion("kind " + kind, x, 0, 0, kind, 0, 1, kind == 3 ? 1 : 5);
            }
        }
    }

    private static void waitsForASendingAfterATimeout() {
        check.sentence("whose cursor isn't OLDEST, or that is RESTING, grows by 1");
        RemoteReach x = open(2, 2, 0);
        x.send(0, 0, 1);
        check.same("nothing is sent, so no time passes", 0, ticks(x, 20));
        for (int i = 0; i < 2; i++) {
            x.push(0);
            check.same("timeout " + i, 0, ticks(x, 2));
            check.same("the cursor is OLDEST, so no time passes", 0, ticks(x, 20));
        }
        x.push(0);
        check.same("sent again", 0, x.tick());
        check.same("the third timeout", 1, x.tick());
    }

    private static void failsInOrder() {
        check.sentence("its first request completes with the status (if one is said for requests), all its other ones with status 5, in order; then a receive that was begun with the status said for it, or else 5, and all other ones with 5, in order.");
        for (int requests = 1; requests <= 4; requests++) {
            for (int receives = 0; receives <= 4; receives++) {
                RemoteReach x = open(2, 0, 0);
                for (int i = 0; i < receives; i++) {
                    x.receive(0, 0, 12 - i);
                }
                for (int i = 0; i < requests; i++) {
                    Links.post(x, 0, 3 - i, 0, 9 + i, 0, 0);
                }
                x.push(0);
                check.same("tick()", 1, ticks(x, 2));
                check.same("completions", requests + receives, x.completions(0));
                for (int i = 0; i < requests; i++) {
                    check.completion("request " + i, x, 0, 0, 3 - i, i, i == 0 ? 1 : 5, i == 0 ? 1 : 9 + i);
                }
                for (int i = 0; i < receives; i++) {
                    check.completion("receive " + i, x, 0, 0, 4, i, 5, 0);
                }
                check.same("requests", 0, x.pair(0, 5));
                check.same("receives", 0, x.pair(0, 6));
            }
        }
    }

    private static void failsWithEmptyQueues() {
        check.sentence("A pair that FAILS is FAILED");
        RemoteReach x = open(5, 0, 0);
        x.move(0, false, 0, 1, 1, 0);
        x.push(0);
        x.deliver(0);
        check.same("state", 2, x.pair(1, 0));
        check.same("nothing to complete", 0, x.completions(1));
        check.same("only the pair", 1, x.pair(0, 0));
        check.same("only the pair", 0, x.pair(3, 0));
    }

    /** Pair 0 has a begun receive with 4 cells of 8, one behind it, and two requests, the first sent. */
    private static RemoteReach begun(int firstKind, int region) {
        RemoteReach x = open(2, 0, 0);
        x.region(0, 0, 0, 32, 7);
        x.receive(0, 0, 8);
        x.receive(0, 0, 1);
        x.send(1, 0, 12);
        Links.pushAll(x, 1);
        x.deliver(0);
        x.deliver(x.packets() - 1);
        Links.loseFrom(x, 0);
        Links.post(x, 0, firstKind, 0, 6, region, 0);
        x.send(0, 0, 2);
        x.push(0);
        return x;
    }

    private static void failsABegunReceive() {
        check.sentence("then a receive that was begun with the status said for it, or else 5");
        RemoteReach byTime = begun(1, 0);
        ticks(byTime, 2);
        checkBegun("by time", byTime, 1, 1, 5, 4);

        RemoteReach byAccess = begun(1, 3);
        byAccess.deliver(0);
        byAccess.deliver(0);
        checkBegun("by a NAK ACCESS", byAccess, 1, 3, 5, 4);

        RemoteReach byNotReady = begun(0, 0);
        byNotReady.deliver(0);
        byNotReady.deliver(0);
        checkBegun("by a NAK NOT READY", byNotReady, 0, 2, 5, 4);

        RemoteReach byRefusing = begun(1, 0);
        Links.restart(byRefusing, 1, 1, 0);
        byRefusing.move(1, false, 0, 1, 3, 0);
        byRefusing.push(1);
        byRefusing.deliver(1);
        checkBegun("by refusing access", byRefusing, 1, 5, 5, 4);

        RemoteReach byLength = begun(1, 0);
        byLength.reset(1);
        byLength.ready(1, 0, 0);
        byLength.send(1, 0, 12);
        Links.pushAll(byLength, 1);
        byLength.deliver(2);
        byLength.deliver(2);
        checkBegun("by refusing a length", byLength, 1, 5, 4, 8);
    }

    private static void checkBegun(String what, RemoteReach x, int kind, int requestStatus, int receiveStatus, int came) {
        check.same(what + ": state", 2, x.pair(0, 0));
        check.completion(what + ", first request", x, 0, 0, kind, 0, requestStatus, 6);
        check.completion(what + ", second request", x, 0, 0, 0, 1, 5, 2);
        check.completion(what + ", begun receive", x, 0, 0, 4, 0, receiveStatus, came);
        check.completion(what + ", other receive", x, 0, 0, 4, 1, 5, 0);
        check.same(what + ": completions", 0, x.completions(0));
    }

    private static void doesNothingMoreWhenFailed() {
        check.sentence("A pair that FAILS is FAILED");
        RemoteReach x = open(2, 0, 0);
        x.send(0, 0, 1);
        x.push(0);
        ticks(x, 2);
        check.same("push", -1, x.push(0));
        check.state("send", () -> x.send(0, 0, 1));
        check.state("write", () -> x.move(0, false, 0, 1, 0, 0));
        check.state("read", () -> x.move(0, true, 0, 1, 0, 0));
        check.state("add", () -> x.add(0, 0, 0, 0, 0));
        check.state("receive", () -> x.receive(0, 0, 1));
        check.state("ready", () -> x.ready(0, 0, 0));
        check.numbers("no numbers", x, 0, -1, -1, -1, -1);
        check.same("tick()", 0, ticks(x, 10));
        check.same("completions", 1, x.completions(0));
        check.yes("reset", x.reset(0));
        x.ready(0, 5, 6);
        check.numbers("READY again", x, 0, 5, 5, 5, 6);
        check.same("serials anew", 0, x.send(0, 0, 1));
    }

    private static void tellsLengths() {
        check.sentence("A COMPLETION has the pair, a kind (0 to 3, or 4 a receive), the serial, a status and a length: the cells of the request, or those that came for a receive.");
        for (int n = 1; n <= 12; n++) {
            RemoteReach x = open(5, 0, 0);
            x.receive(1, 0, 12);
            for (int kind = 0; kind < 4; kind++) {
                Links.post(x, 0, kind, 0, n, 0, 0);
                Links.pushAll(x, 0);
                Links.deliverAll(x);
                check.completion("kind " + kind + " of " + n, x, 0, 0, kind, kind, 0, kind == 3 ? 1 : n);
            }
            check.completion("the receive of 12, for " + n, x, 1, 1, 4, 0, 0, n);
        }
    }
}
