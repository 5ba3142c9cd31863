/** Promise 12: what a pair does with the packets that answer its requests. */
public final class AnswersComeTest {
    private static final Check check = new Check();

    public static void main(String[] args) {
        takesAnAckForAllBefore();
        takesNoAckForWhatIsNotOpen();
        stopsAnAckAtARead();
        stopsAnAckAtAnAdd();
        takesRepliesInOrderOnly();
        takesNoReplyForASend();
        takesNoReplyForWhatIsNotSent();
        takesNoMoreCellsThanItAskedFor();
        takesFewerCells();
        goesBackAfterSequence();
        takesSequenceAsAnAck();
        takesNoNakForWhatIsNotOldest();
        restsAfterNotReady();
        failsAfterTooManyNotReadys();
        forgetsNotReadysWhenAnswered();
        failsAfterAccess();
        failsAfterLength();
        completesInOrder();
        completesAllAtOnce();
        failsWithFullQueues();
        check.end();
    }

    private static RemoteReach open(int first) {
        RemoteReach x = Links.linked(5, 2, 2, first, 40);
        x.region(1, 0, 0, 32, 7);
        return x;
    }

    /** An object whose only packet is an ACK with a number, and whose pair 0 has 10 and 11 sent, not 12. */
    private static RemoteReach withAck(int number) {
        RemoteReach x = open(number);
        x.move(0, false, 0, 1, 0, 0);
        x.push(0);
        x.deliver(0);
        x.reset(0);
        x.ready(0, 10, 40);
        x.move(0, false, 0, 12, 0, 0);
        x.push(0);
        x.push(0);
        x.spoil(1, false);
        x.spoil(1, false);
        check.packet("the ACK", x, 0, 0, 5, number);
        return x;
    }

    private static void takesAnAckForAllBefore() {
        RemoteReach x = open(62);
        for (int i = 0; i < 4; i++) {
            x.move(0, false, 0, 5 - i, 0, 0);
        }
        Links.pushAll(x, 0);
        for (int i = 0; i < 4; i++) {
            x.deliver(0);
        }
        x.spoil(1, false);
        x.spoil(1, false);
        x.spoil(1, false);
        check.packet("the ACK of the fourth", x, 1, 0, 5, 1);
        x.deliver(1);
        check.numbers("all up to it", x, 0, 3, 2, 3, 40);
        check.same("requests", 1, x.pair(0, 5));
        check.completion("first", x, 0, 0, 1, 0, 0, 5);
        check.completion("second", x, 0, 0, 1, 1, 0, 4);
        check.completion("third", x, 0, 0, 1, 2, 0, 3);
    }

    private static void takesNoAckForWhatIsNotOpen() {
        for (int number = 0; number < 64; number++) {
            RemoteReach x = withAck(number);
            x.deliver(0);
            int oldest = number == 10 ? 11 : number == 11 ? 12 : 10;
            check.numbers("ACK " + number + " for 10 and 11", x, 0, 13, oldest, 12, 40);
        }
    }

    private static void stopsAnAckAtARead() {
        RemoteReach x = open(0);
        x.move(0, false, 0, 1, 0, 0);
        x.move(0, true, 0, 5, 0, 0);
        x.move(0, false, 0, 1, 0, 0);
        Links.pushAll(x, 0);
        for (int i = 0; i < 3; i++) {
            x.deliver(0);
        }
        check.packet("the last ACK", x, 3, 0, 5, 3);
        x.deliver(3);
        check.numbers("only what is before the READ", x, 0, 4, 1, 4, 40);
        check.same("completions(0)", 1, x.completions(0));
        x.deliver(1);
        x.deliver(1);
        check.numbers("the READ, not what is behind it", x, 0, 4, 3, 4, 40);
        check.same("completions(0)", 2, x.completions(0));
    }

    private static void stopsAnAckAtAnAdd() {
        RemoteReach x = open(0);
        x.add(0, 0, 0, 0, 1);
        x.move(0, false, 0, 1, 0, 0);
        Links.pushAll(x, 0);
        Links.tick(x, 4);
        x.deliver(0);
        x.deliver(0);
        x.deliver(1);
        check.numbers("nothing is answered", x, 0, 2, 0, 2, 40);
        x.tick();
        check.same("so the clock went on", 0, x.pair(0, 3));
    }

    private static void takesRepliesInOrderOnly() {
        RemoteReach x = open(0);
        Links.fill(x, 1, 0, 8, 60);
        x.move(0, true, 0, 8, 0, 0);
        x.push(0);
        x.deliver(0);
        x.spoil(1, true);
        x.deliver(1);
        check.numbers("the second REPLY first", x, 0, 2, 0, 2, 40);
        check.same("cell(0, 4)", 0, x.cell(0, 4));
        x.deliver(0);
        check.numbers("the first", x, 0, 2, 1, 2, 40);
        check.same("cell(0, 3)", 63, x.cell(0, 3));
        check.same("completions(0)", 0, x.completions(0));
        x.deliver(0);
        check.numbers("the second", x, 0, 2, 2, 2, 40);
        check.same("cell(0, 7)", 67, x.cell(0, 7));
        check.completion("done", x, 0, 0, 2, 0, 0, 8);
    }

    private static void takesNoReplyForASend() {
        RemoteReach x = open(0);
        x.add(0, 0, 0, 0, 1);
        x.push(0);
        x.deliver(0);
        x.reset(0);
        x.ready(0, 0, 40);
        x.send(0, 0, 1);
        x.push(0);
        x.deliver(0);
        check.numbers("a REPLY for a SEND", x, 0, 1, 0, 1, 40);
    }

    private static void takesNoReplyForWhatIsNotSent() {
        RemoteReach x = open(0);
        x.store(1, 0, 3);
        x.add(0, 0, 0, 0, 1);
        x.push(0);
        x.deliver(0);
        x.reset(0);
        x.ready(0, 0, 40);
        x.add(0, 5, 0, 0, 1);
        x.deliver(0);
        check.numbers("a REPLY for what is posted alone", x, 0, 1, 0, 0, 40);
        check.same("cell(0, 5)", 0, x.cell(0, 5));
    }

    private static void takesNoMoreCellsThanItAskedFor() {
        RemoteReach x = open(0);
        Links.fill(x, 1, 0, 4, 60);
        x.move(0, true, 0, 4, 0, 0);
        x.push(0);
        x.deliver(0);
        x.spoil(0, true);
        x.reset(0);
        x.ready(0, 0, 40);
        x.move(0, true, 8, 2, 0, 0);
        x.push(0);
        x.deliver(0);
        check.same("the last that it asked for", 61, x.cell(0, 9));
        check.same("one more", 0, x.cell(0, 10));
        check.completion("done", x, 0, 0, 2, 0, 0, 2);
        x.reset(0);
        x.ready(0, 0, 40);
        x.add(0, 12, 0, 0, 1);
        x.push(0);
        x.deliver(0);
        check.same("an ADD asks for one", 60, x.cell(0, 12));
        check.same("one more", 0, x.cell(0, 13));
    }

    private static void takesFewerCells() {
        RemoteReach x = open(0);
        x.store(1, 0, 60);
        x.move(0, true, 0, 1, 0, 0);
        x.push(0);
        x.deliver(0);
        x.reset(0);
        x.ready(0, 0, 40);
        Links.fill(x, 0, 8, 4, 5);
        x.move(0, true, 8, 4, 0, 0);
        x.push(0);
        x.deliver(0);
        check.same("what came", 60, x.cell(0, 8));
        check.same("what didn't come", 6, x.cell(0, 9));
        check.completion("done all the same", x, 0, 0, 2, 0, 0, 4);
    }

    private static void goesBackAfterSequence() {
        RemoteReach x = open(5);
        x.move(0, false, 0, 12, 0, 0);
        Links.pushAll(x, 0);
        x.spoil(0, false);
        x.deliver(0);
        x.deliver(1);
        check.numbers("the cursor is OLDEST", x, 0, 8, 5, 5, 40);
        check.same("not RESTING", 0, x.pair(0, 7));
        check.same("sent again", 5, x.push(0));
    }

    private static void takesSequenceAsAnAck() {
        RemoteReach x = open(5);
        x.move(0, false, 0, 4, 0, 0);
        x.move(0, false, 0, 12, 0, 0);
        Links.pushAll(x, 0);
        x.deliver(0);
        x.spoil(3, false);
        x.deliver(1);
        check.packet("NAK SEQUENCE", x, 2, 0, 6, 6, 0, 1);
        x.deliver(2);
        check.numbers("the one before is answered", x, 0, 9, 6, 6, 40);
        check.completion("and completed", x, 0, 0, 1, 0, 0, 4);
        check.same("requests", 1, x.pair(0, 5));
    }

    private static void takesNoNakForWhatIsNotOldest() {
        RemoteReach x = open(0);
        x.move(0, true, 0, 4, 0, 0);
        x.send(0, 0, 1);
        Links.pushAll(x, 0);
        x.deliver(0);
        x.deliver(0);
        check.packet("NAK NOT READY", x, 1, 0, 6, 1, 0, 2);
        x.spoil(1, true);
        x.deliver(1);
        check.numbers("a READ before it isn't answered", x, 0, 2, 0, 2, 40);
        check.same("not RESTING", 0, x.pair(0, 7));
        x.deliver(0);
        x.deliver(0);
        check.numbers("now it is OLDEST", x, 0, 2, 1, 1, 40);
        check.same("RESTING", 1, x.pair(0, 7));
        x.push(0);
        Links.tick(x, 3);
        check.same("rested", 0, x.pair(0, 7));
    }

    private static void restsAfterNotReady() {
        RemoteReach x = open(0);
        x.send(0, 0, 8);
        Links.pushAll(x, 0);
        Links.tick(x, 4);
        x.deliver(0);
        x.spoil(1, true);
        x.deliver(1);
        check.numbers("the cursor is OLDEST", x, 0, 2, 0, 0, 40);
        check.same("RESTING", 1, x.pair(0, 7));
        x.deliver(1);
        check.same("a copy is dropped, for the cursor is OLDEST", 1, x.pair(0, 7));
        Links.tick(x, 2);
        check.same("the clock was 0 then", 1, x.pair(0, 7));
        check.same("push", -1, x.push(0));
        x.tick();
        check.same("rested", 0, x.pair(0, 7));
        check.same("push", 0, x.push(0));
    }

    private static void failsAfterTooManyNotReadys() {
        RemoteReach x = Links.linked(20, 7, 2);
        x.receive(0, 0, 1);
        x.send(0, 0, 1);
        x.send(0, 0, 2);
        for (int i = 0; i < 3; i++) {
            check.same("state", 1, x.pair(0, 0));
            x.push(0);
            Links.deliverAll(x);
            Links.tick(x, 3);
        }
        check.same("state", 2, x.pair(0, 0));
        check.completion("the first", x, 0, 0, 0, 0, 2, 1);
        check.completion("the other", x, 0, 0, 0, 1, 5, 2);
        check.completion("the receive", x, 0, 0, 4, 0, 5, 0);
        check.same("the peer's state", 1, x.pair(1, 0));
    }

    private static void forgetsNotReadysWhenAnswered() {
        RemoteReach x = Links.linked(20, 7, 1);
        for (int i = 0; i < 4; i++) {
            x.send(0, 0, 1);
            x.push(0);
            Links.deliverAll(x);
            Links.tick(x, 3);
            x.receive(1, 0, 1);
            x.push(0);
            Links.deliverAll(x);
            check.same("answered", i + 1, x.completions(0));
        }
    }

    private static void failsAfterAccess() {
        RemoteReach x = open(0);
        x.receive(0, 0, 1);
        x.move(0, false, 0, 1, 0, 0);
        x.move(0, true, 0, 7, 1, 0);
        x.send(0, 0, 1);
        Links.pushAll(x, 0);
        x.deliver(0);
        x.spoil(2, false);
        x.deliver(0);
        x.deliver(1);
        check.same("state", 2, x.pair(0, 0));
        check.completion("answered by the NAK", x, 0, 0, 1, 0, 0, 1);
        check.completion("the first", x, 0, 0, 2, 1, 3, 7);
        check.completion("the other", x, 0, 0, 0, 2, 5, 1);
        check.completion("the receive", x, 0, 0, 4, 0, 5, 0);
        check.same("requests", 0, x.pair(0, 5));
        check.same("receives", 0, x.pair(0, 6));
    }

    private static void failsAfterLength() {
        RemoteReach x = open(0);
        x.receive(1, 0, 1);
        x.send(0, 0, 2);
        x.add(0, 0, 0, 0, 0);
        x.push(0);
        Links.deliverAll(x);
        check.same("state", 2, x.pair(0, 0));
        check.completion("the first", x, 0, 0, 0, 0, 4, 2);
        check.completion("the other", x, 0, 0, 3, 1, 5, 1);
    }

    private static void completesAllAtOnce() {
        RemoteReach x = open(0);
        for (int i = 0; i < 4; i++) {
            x.move(0, false, 0, i + 1, 0, 0);
        }
        Links.pushAll(x, 0);
        for (int i = 0; i < 4; i++) {
            x.deliver(0);
        }
        x.deliver(3);
        check.same("requests", 0, x.pair(0, 5));
        for (int i = 0; i < 4; i++) {
            check.completion("in order", x, 0, 0, 1, i, 0, i + 1);
        }
        Links.deliverAll(x);
        check.same("the other ACKs are dropped", 0, x.completions(0));
    }

    private static void failsWithFullQueues() {
        RemoteReach x = open(0);
        for (int i = 0; i < 4; i++) {
            x.move(0, false, 0, i + 1, 3, 0);
            x.receive(0, 0, 1);
        }
        x.push(0);
        Links.deliverAll(x);
        check.same("state", 2, x.pair(0, 0));
        for (int i = 0; i < 4; i++) {
            check.completion("requests first", x, 0, 0, 1, i, i == 0 ? 3 : 5, i + 1);
        }
        for (int i = 0; i < 4; i++) {
            check.completion("then receives", x, 0, 0, 4, i, 5, 0);
        }
        check.same("requests", 0, x.pair(0, 5));
        check.same("receives", 0, x.pair(0, 6));
    }

    private static void completesInOrder() {
        RemoteReach x = new RemoteReach(5, 2, 2);
        x.region(1, 0, 0, 32, 7);
        for (int q = 0; q < 4; q++) {
            x.ready(q, 0, 0);
        }
        x.add(2, 0, 0, 0, 1);
        x.move(0, false, 0, 1, 0, 0);
        x.push(0);
        x.push(2);
        x.deliver(1);
        x.deliver(1);
        Links.deliverAll(x);
        check.completion("as they came", x, 0, 2, 3, 0, 0, 1);
        check.completion("as they came", x, 0, 0, 1, 0, 0, 1);
    }
}
