/** Promise 12: what a pair does with the packets of its peer's requests. */
public final class RequestsComeTest {
    private static final Check check = new Check();

    public static void main(String[] args) {
        takesNoPacketThatIsNotThere();
        dropsWhatComesToAPairThatIsNotReady();
        takesAMessage();
        takesOneReceiveForEachMessage();
        takesMessagesOneAfterTheOther();
        refusesAMessageWithoutAReceive();
        refusesAMessageThatIsTooLong();
        refusesALaterPartThatIsTooLong();
        dropsAPartOutOfItsMessage();
        writes();
        reads();
        adds();
        wantsEachRight();
        wantsAllCellsInTheRegion();
        failsWithoutARequestStatus();
        tellsSequenceOnce();
        tellsSequenceAgainOnlyWhenOneWasDone();
        knowsPastFromFuture();
        acknowledgesTheLatestForACopy();
        answersACopyOfARead();
        answersACopyOfAnAdd();
        answersNoAddThatItNeverDid();
        makesRoomByComing();
        losesAnswersWithoutRoom();
        check.end();
    }

    private static RemoteReach open(int first) {
        RemoteReach x = Links.linked(5, 2, 2, first, 40);
        x.region(1, 0, 0, 32, 7);
        return x;
    }

    private static void takesNoPacketThatIsNotThere() {
        RemoteReach x = open(0);
        check.no("deliver(0)", x.deliver(0));
        x.send(0, 0, 1);
        x.push(0);
        for (int k : new int[] {-1, 1, 24, Integer.MIN_VALUE, Integer.MAX_VALUE}) {
            check.no("deliver(" + k + ")", x.deliver(k));
        }
        check.same("packets()", 1, x.packets());
        check.yes("deliver(0)", x.deliver(0));
    }

    private static void dropsWhatComesToAPairThatIsNotReady() {
        RemoteReach x = open(0);
        x.move(0, false, 0, 1, 0, 0);
        x.store(0, 0, 5);
        x.push(0);
        x.spoil(0, true);
        x.reset(1);
        check.yes("deliver to a RESET pair", x.deliver(0));
        check.same("nothing is answered", 1, x.packets());
        check.same("nothing is written", 0, x.cell(1, 0));
        x.ready(1, 0, 0);
        x.deliver(0);
        x.reset(0);
        check.yes("an ACK to a RESET pair", x.deliver(0));
        check.same("packets()", 0, x.packets());
        check.same("completions(0)", 0, x.completions(0));
    }

    private static void takesAMessage() {
        RemoteReach x = open(63);
        Links.fill(x, 0, 10, 9, 70);
        x.receive(1, 2, 12);
        x.send(0, 10, 9);
        Links.pushAll(x, 0);
        x.deliver(0);
        check.same("EXPECTED", 0, x.pair(1, 4));
        check.packet("an ACK for each packet", x, 2, 0, 5, 63);
        check.same("a begun receive is there still", 1, x.pair(1, 6));
        check.same("completions(1)", 0, x.completions(1));
        x.deliver(0);
        x.deliver(0);
        check.packet("an ACK for the last", x, 2, 0, 5, 1);
        for (int i = 0; i < 9; i++) {
            check.same("cell", 70 + i, x.cell(1, 2 + i));
        }
        check.same("no more cells", 0, x.cell(1, 11));
        check.same("receives", 0, x.pair(1, 6));
        check.completion("with what came", x, 1, 1, 4, 0, 0, 9);
        check.same("the sender's completions", 0, x.completions(0));
        Links.deliverAll(x);
        check.completion("with its cells", x, 0, 0, 0, 0, 0, 9);
    }

    private static void takesOneReceiveForEachMessage() {
        RemoteReach x = open(0);
        Links.fill(x, 0, 0, 12, 1);
        x.receive(1, 0, 1);
        x.receive(1, 4, 12);
        x.receive(1, 20, 5);
        x.send(0, 0, 1);
        x.send(0, 1, 5);
        x.send(0, 6, 5);
        Links.pushAll(x, 0);
        Links.deliverAll(x);
        check.same("first", 1, x.cell(1, 0));
        check.same("second", 2, x.cell(1, 4));
        check.same("second's last", 6, x.cell(1, 8));
        check.same("third", 7, x.cell(1, 20));
        check.same("third's last", 11, x.cell(1, 24));
        check.completion("first", x, 1, 1, 4, 0, 0, 1);
        check.completion("second", x, 1, 1, 4, 1, 0, 5);
        check.completion("third", x, 1, 1, 4, 2, 0, 5);
    }

    private static void takesMessagesOneAfterTheOther() {
        RemoteReach x = open(0);
        for (int i = 0; i < 10; i++) {
            Links.fill(x, 0, 0, 5, 100 * i);
            check.same("serial", i, x.receive(1, 8, 6));
            x.send(0, 0, 5);
            Links.pushAll(x, 0);
            Links.deliverAll(x);
            check.same("its first cell", 100 * i, x.cell(1, 8));
            check.same("its last cell", 100 * i + 4, x.cell(1, 12));
            check.completion("the receive", x, 1, 1, 4, i, 0, 5);
            check.completion("the request", x, 0, 0, 0, i, 0, 5);
        }
    }

    private static void refusesAMessageWithoutAReceive() {
        RemoteReach x = open(30);
        x.send(0, 0, 5);
        Links.pushAll(x, 0);
        x.deliver(0);
        check.packet("NAK NOT READY", x, 1, 0, 6, 30, 0, 2);
        check.same("EXPECTED", 30, x.pair(1, 4));
        check.same("state", 1, x.pair(1, 0));
        x.deliver(0);
        check.packet("NAK SEQUENCE", x, 1, 0, 6, 30, 0, 1);
    }

    private static void refusesAMessageThatIsTooLong() {
        RemoteReach x = open(0);
        Links.fill(x, 0, 0, 4, 9);
        x.receive(1, 0, 3);
        x.receive(1, 0, 12);
        x.send(1, 0, 1);
        x.send(0, 0, 4);
        x.push(0);
        x.deliver(0);
        check.packet("NAK LENGTH", x, 0, 0, 6, 0, 0, 4);
        check.same("state", 2, x.pair(1, 0));
        check.same("nothing is written", 0, x.cell(1, 0));
        check.completion("its request", x, 1, 1, 0, 0, 5, 1);
        check.completion("the receive", x, 1, 1, 4, 0, 4, 0);
        check.completion("the other receive", x, 1, 1, 4, 1, 5, 0);
        check.same("completions(1)", 0, x.completions(1));
    }

    private static void refusesALaterPartThatIsTooLong() {
        RemoteReach x = open(0);
        Links.fill(x, 0, 0, 9, 9);
        x.receive(1, 0, 8);
        x.send(0, 0, 9);
        Links.pushAll(x, 0);
        Links.deliverAll(x);
        check.same("what came before", 16, x.cell(1, 7));
        check.same("what did not fit", 0, x.cell(1, 8));
        check.completion("the receive", x, 1, 1, 4, 0, 4, 8);
        check.completion("the request", x, 0, 0, 0, 0, 4, 9);
    }

    private static void dropsAPartOutOfItsMessage() {
        RemoteReach x = open(0);
        x.receive(1, 0, 12);
        x.send(0, 0, 8);
        Links.pushAll(x, 0);
        x.deliver(0);
        x.spoil(0, false);
        x.spoil(0, false);
        x.reset(0);
        x.ready(0, 1, 40);
        x.send(0, 0, 8);
        x.push(0);
        x.deliver(0);
        check.same("a FIRST one where one was begun: no answer", 0, x.packets());
        check.same("EXPECTED", 1, x.pair(1, 4));
        check.same("state", 1, x.pair(1, 0));
        x.push(0);
        x.reset(1);
        x.ready(1, 40, 2);
        x.receive(1, 0, 12);
        x.deliver(0);
        check.same("one that isn't FIRST where none was begun: no answer", 0, x.packets());
        check.same("EXPECTED", 2, x.pair(1, 4));
        check.same("receives", 1, x.pair(1, 6));
    }

    private static void writes() {
        RemoteReach x = open(0);
        Links.fill(x, 0, 0, 12, 1);
        x.move(0, false, 0, 12, 0, 20);
        Links.pushAll(x, 0);
        x.deliver(0);
        check.same("EXPECTED", 1, x.pair(1, 4));
        check.packet("its ACK", x, 2, 0, 5, 0);
        check.same("cell(1, 23)", 4, x.cell(1, 23));
        check.same("cell(1, 24)", 0, x.cell(1, 24));
        Links.deliverAll(x);
        check.same("cell(1, 31)", 12, x.cell(1, 31));
        check.same("cell(1, 19)", 0, x.cell(1, 19));
        check.completion("done", x, 0, 0, 1, 0, 0, 12);
        check.same("the other node has none", 0, x.completions(1));
    }

    private static void reads() {
        RemoteReach x = open(63);
        Links.fill(x, 1, 5, 9, 100);
        x.move(0, true, 0, 9, 0, 5);
        x.push(0);
        x.deliver(0);
        check.same("EXPECTED is behind its numbers", 2, x.pair(1, 4));
        check.same("packets()", 3, x.packets());
        check.packet("first", x, 0, 0, 4, 63, 4);
        check.packet("second", x, 1, 0, 4, 0, 4);
        check.packet("third", x, 2, 0, 4, 1, 1);
        x.store(1, 5, 1);
        Links.deliverAll(x);
        for (int i = 0; i < 9; i++) {
            check.same("cell", 100 + i, x.cell(0, i));
        }
        check.same("no more cells", 0, x.cell(0, 9));
        check.completion("done", x, 0, 0, 2, 0, 0, 9);
    }

    private static void adds() {
        RemoteReach x = open(0);
        x.store(1, 3, Integer.MAX_VALUE);
        x.add(0, 9, 0, 3, 2);
        x.push(0);
        x.deliver(0);
        check.same("round at 2 to the 32", Integer.MIN_VALUE + 1, x.cell(1, 3));
        check.packet("its REPLY", x, 0, 0, 4, 0, 1);
        x.deliver(0);
        check.same("what was there", Integer.MAX_VALUE, x.cell(0, 9));
        check.completion("done", x, 0, 0, 3, 0, 0, 1);
    }

    private static void wantsEachRight() {
        for (int rights = 0; rights < 8; rights++) {
            for (int kind = 1; kind <= 3; kind++) {
                RemoteReach x = open(17);
                x.region(1, 0, 0, 32, rights);
                post(x, kind, 1, 0, 0);
                x.push(0);
                x.deliver(0);
                boolean allowed = (rights >> (kind - 1)) % 2 == 1;
                String what = "kind " + kind + " with rights " + rights;
                check.same(what + ": state", allowed ? 1 : 2, x.pair(1, 0));
                if (!allowed) {
                    check.packet(what, x, 0, 0, 6, 17, 0, 3);
                }
            }
        }
    }

    private static void post(RemoteReach x, int kind, int n, int region, int place) {
        if (kind == 3) {
            x.add(0, 0, region, place, 1);
        } else {
            x.move(0, kind == 2, 0, n, region, place);
        }
    }

    private static void wantsAllCellsInTheRegion() {
        int[][] cases = {{1, 4, 8, 1}, {1, 4, 7, 0}, {1, 4, 9, 0}, {1, 1, 11, 1}, {1, 1, 12, 0}, {2, 4, 8, 1},
            {2, 4, 7, 0}, {2, 5, 8, 0}, {2, 4, 31, 0}, {3, 1, 8, 1}, {3, 1, 11, 1}, {3, 1, 12, 0}, {3, 1, 7, 0}};
        for (int[] c : cases) {
            RemoteReach x = open(0);
            x.region(1, 3, 8, 4, 7);
            post(x, c[0], c[1], 3, c[2]);
            x.push(0);
            x.deliver(0);
            check.same("kind " + c[0] + " of " + c[1] + " cells at " + c[2], c[3] == 1 ? 1 : 2, x.pair(1, 0));
        }
    }

    private static void failsWithoutARequestStatus() {
        RemoteReach x = open(0);
        x.receive(1, 0, 12);
        x.receive(1, 0, 2);
        x.send(1, 0, 3);
        x.add(1, 0, 0, 0, 0);
        x.send(0, 0, 8);
        x.push(0);
        x.deliver(0);
        x.spoil(0, false);
        x.reset(0);
        x.ready(0, 1, 40);
        x.add(0, 0, 5, 0, 1);
        x.push(0);
        x.deliver(0);
        check.same("state", 2, x.pair(1, 0));
        check.completion("first request", x, 1, 1, 0, 0, 5, 3);
        check.completion("second request", x, 1, 1, 3, 1, 5, 1);
        check.completion("begun receive", x, 1, 1, 4, 0, 5, 4);
        check.completion("other receive", x, 1, 1, 4, 1, 5, 0);
    }

    private static void tellsSequenceOnce() {
        RemoteReach x = open(10);
        x.move(0, false, 0, 12, 0, 0);
        x.move(0, true, 0, 4, 0, 0);
        x.add(0, 0, 0, 0, 1);
        Links.pushAll(x, 0);
        x.spoil(0, false);
        x.deliver(0);
        check.packet("NAK SEQUENCE with EXPECTED", x, 3, 0, 6, 10, 0, 1);
        x.deliver(0);
        x.deliver(0);
        x.deliver(0);
        check.same("only one", 1, x.packets());
        check.same("EXPECTED", 10, x.pair(1, 4));
        check.same("nothing is done", 0, x.cell(1, 0));
    }

    private static void tellsSequenceAgainOnlyWhenOneWasDone() {
        RemoteReach x = open(0);
        x.send(0, 0, 1);
        x.send(0, 0, 1);
        x.send(0, 0, 1);
        Links.pushAll(x, 0);
        x.deliver(2);
        check.same("told", 3, x.packets());
        x.spoil(0, true);
        x.deliver(0);
        check.packet("refused, not done", x, 3, 0, 6, 0, 0, 2);
        x.spoil(0, true);
        x.deliver(0);
        check.same("so not told again", 4, x.packets());
        x.receive(1, 0, 1);
        x.deliver(1);
        check.same("EXPECTED", 1, x.pair(1, 4));
        x.send(0, 0, 1);
        x.push(0);
        x.deliver(x.packets() - 1);
        check.packet("done, so told again", x, x.packets() - 1, 0, 6, 1, 0, 1);
    }

    private static void knowsPastFromFuture() {
        for (int d = 1; d < 64; d++) {
            RemoteReach x = new RemoteReach(5, 2, 2);
            x.region(1, 0, 0, 32, 7);
            x.ready(0, (50 + d) % 64, 0);
            x.ready(1, 0, 50);
            x.move(0, false, 0, 1, 0, 0);
            x.push(0);
            x.deliver(0);
            if (d < 32) {
                check.packet("d = " + d, x, 0, 0, 6, 50, 0, 1);
            } else {
                check.packet("d = " + d, x, 0, 0, 5, 49, 0, -1);
            }
            check.same("EXPECTED", 50, x.pair(1, 4));
        }
    }

    private static void acknowledgesTheLatestForACopy() {
        RemoteReach x = open(0);
        x.receive(1, 0, 4);
        x.receive(1, 4, 4);
        x.send(0, 0, 4);
        x.move(0, false, 0, 4, 0, 10);
        Links.pushAll(x, 0);
        x.spoil(0, true);
        x.spoil(1, true);
        x.deliver(0);
        x.deliver(0);
        x.store(1, 10, 77);
        x.deliver(0);
        x.deliver(0);
        check.packet("a copy of a SEND", x, 2, 0, 5, 1);
        check.packet("a copy of a WRITE", x, 3, 0, 5, 1);
        check.same("not taken again", 1, x.pair(1, 6));
        check.same("not written again", 77, x.cell(1, 10));
        check.same("EXPECTED", 2, x.pair(1, 4));
        x.region(1, 0, 0, 0, 0);
        x.reset(0);
        x.ready(0, 0, 40);
        x.move(0, false, 0, 4, 0, 10);
        x.push(0);
        x.deliver(4);
        check.packet("a copy of a WRITE that isn't allowed now", x, 4, 0, 5, 1);
        check.same("state", 1, x.pair(1, 0));
    }

    private static void answersACopyOfARead() {
        RemoteReach x = open(0);
        x.store(1, 4, 5);
        x.move(0, true, 0, 8, 0, 4);
        x.push(0);
        x.spoil(0, true);
        x.spoil(0, true);
        x.deliver(0);
        x.spoil(2, false);
        x.spoil(2, false);
        x.store(1, 4, 6);
        x.deliver(0);
        check.same("packets()", 3, x.packets());
        check.packet("a REPLY again", x, 1, 0, 4, 0, 4);
        check.packet("and the second", x, 2, 0, 4, 1, 4);
        check.same("EXPECTED", 2, x.pair(1, 4));
        x.deliver(1);
        check.same("with the cells of now", 6, x.cell(0, 0));
        x.region(1, 0, 0, 32, 5);
        x.deliver(0);
        check.same("nothing if it isn't allowed now", 1, x.packets());
        check.same("state", 1, x.pair(1, 0));
    }

    private static void answersACopyOfAnAdd() {
        RemoteReach x = open(0);
        x.store(1, 0, 100);
        for (int i = 0; i < 3; i++) {
            x.add(0, i, 0, 0, 1);
            x.push(0);
            x.spoil(i, true);
            x.deliver(i);
            x.deliver(i + 1);
        }
        check.same("packets()", 3, x.packets());
        x.region(1, 0, 0, 0, 0);
        x.store(1, 0, 7);
        check.packet("the oldest's copy", x, 0, 1, 3, 0);
        x.deliver(0);
        check.same("the third latest gets nothing", 2, x.packets());
        x.deliver(0);
        check.packet("the second latest", x, 1, 0, 4, 1, 1);
        x.deliver(0);
        check.packet("the latest", x, 1, 0, 4, 2, 1);
        check.same("not added again", 7, x.cell(1, 0));
        check.same("EXPECTED", 3, x.pair(1, 4));
        x.reset(0);
        x.ready(0, 1, 40);
        x.add(0, 20, 0, 0, 1);
        x.add(0, 21, 0, 0, 1);
        Links.pushAll(x, 0);
        x.deliver(0);
        x.deliver(0);
        check.same("the same as before", 101, x.cell(0, 20));
        check.same("the same as before", 102, x.cell(0, 21));
    }

    private static void answersNoAddThatItNeverDid() {
        RemoteReach x = new RemoteReach(5, 2, 2);
        x.region(1, 0, 0, 32, 7);
        x.ready(0, 0, 0);
        x.ready(1, 0, 1);
        x.add(0, 0, 0, 0, 1);
        x.push(0);
        x.deliver(0);
        check.same("no REPLY", 0, x.packets());
        check.same("not added", 0, x.cell(1, 0));
        check.same("state", 1, x.pair(1, 0));
    }

    private static void makesRoomByComing() {
        RemoteReach x = open(0);
        Links.crowd(x, 23);
        x.move(0, false, 0, 1, 0, 0);
        x.push(0);
        check.same("packets()", 24, x.packets());
        x.deliver(23);
        check.packet("its ACK has its room", x, 23, 0, 5, 0);
        check.same("packets()", 24, x.packets());
    }

    private static void losesAnswersWithoutRoom() {
        RemoteReach x = open(0);
        Links.crowd(x, 22);
        Links.fill(x, 1, 0, 12, 30);
        x.move(0, true, 0, 12, 0, 0);
        x.push(0);
        x.deliver(22);
        check.same("packets()", 24, x.packets());
        check.packet("the first", x, 22, 0, 4, 0, 4);
        check.packet("the second", x, 23, 0, 4, 1, 4);
        check.same("EXPECTED is behind the lost one, too", 3, x.pair(1, 4));
        x.deliver(22);
        x.deliver(22);
        check.same("OLDEST", 2, x.pair(0, 2));
        check.same("cell(0, 7)", 37, x.cell(0, 7));
    }
}
