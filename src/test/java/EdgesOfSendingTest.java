/** The edges that "SENDING" names: what can be sent, the 8 numbers, parts of requests, the clock. */
public final class EdgesOfSendingTest {
    private static final Check check = new Check();

    public static void main(String[] args) {
        wantsARequestFromTheCursorOn();
        wantsAPairThatIsNotResting();
        keepsWithin8Numbers();
        keepsEachPartWithin8Numbers();
        goesOnAsOldestGoesOn();
        countsReadsWhole();
        cutsRequestsInto4();
        movesAWritesPlaceOn();
        sendsTheRestOfARead();
        sendsAnAddAsOne();
        movesTheCursorBehind();
        setsTheClockForOldestAlone();
        leavesTheClockWhenNothingIsSent();
        check.end();
    }

    private static RemoteReach open(int first) {
        RemoteReach x = Links.linked(5, 2, 2, first, 0);
        x.region(1, 0, 0, 32, 7);
        return x;
    }

    private static void wantsARequestFromTheCursorOn() {
        check.sentence("if there is a request with numbers from the cursor on");
        for (int kind = 0; kind < 4; kind++) {
            RemoteReach x = open(63);
            x.receive(1, 0, 12);
            check.same("none was posted", -1, x.push(0));
            Links.post(x, 0, kind, 0, 4, 0, 0);
            check.same("one is there", 63, x.push(0));
            check.same("all are sent", -1, x.push(0));
            check.same("packets()", 1, x.packets());
            Links.post(x, 0, kind, 0, 4, 0, 0);
            check.same("one more behind what is sent", 0, x.push(0));
            x.spoil(1, false);
            Links.deliverAll(x);
            check.numbers("one is answered", x, 0, 1, 0, 1, 0);
            check.same("all are sent", -1, x.push(0));
            check.same("packets()", 0, x.packets());
        }
    }

    private static void wantsAPairThatIsNotResting() {
        check.sentence("the pair isn't RESTING");
        RemoteReach x = open(0);
        x.send(0, 0, 1);
        x.push(0);
        Links.deliverAll(x);
        for (int i = 0; i < 3; i++) {
            check.same("RESTING", 1, x.pair(0, 7));
            check.same("push", -1, x.push(0));
            check.same("packets()", 0, x.packets());
            x.tick();
        }
        check.same("not any more", 0, x.pair(0, 7));
        check.same("push", 0, x.push(0));
    }

    /** Three WRITEs are posted that take so many numbers (3 .. 9). */
    private static RemoteReach posted(int first, int numbers) {
        RemoteReach x = open(first);
        int left = numbers;
        for (int i = 0; i < 3; i++) {
            int takes = Math.min(3, left - (2 - i));
            x.move(0, false, 0, 4 * takes, 0, 0);
            left -= takes;
        }
        return x;
    }

    private static void keepsWithin8Numbers() {
        check.sentence("and its packet's last number is less than 8 numbers behind OLDEST");
        for (int first : new int[] {0, 52, 57, 60}) {
            for (int before = 3; before <= 9; before++) {
                for (int kind = 0; kind < 4; kind++) {
                    for (int numbers = 1; numbers <= (kind == 3 ? 1 : 3); numbers++) {
                        checkWindow(first, before, kind, numbers);
                    }
                }
            }
        }
    }

    /** Behind the numbers of three WRITEs comes a request of a kind with so many numbers. */
    private static void checkWindow(int first, int before, int kind, int numbers) {
        RemoteReach x = posted(first, before);
        Links.post(x, 0, kind, 0, 4 * numbers, 0, 0);
        Links.pushAll(x, 0);
        int all = before + numbers;
        int due = all <= 8 ? all : kind == 2 ? Math.min(before, 8) : 8;
        String what = "from " + first + ", " + before + " numbers, then kind " + kind + " with " + numbers;
        check.numbers(what, x, 0, (first + all) % 64, first, (first + due) % 64, 0);
    }

    private static void keepsEachPartWithin8Numbers() {
        check.sentence("and its packet's last number is less than 8 numbers behind OLDEST");
        RemoteReach x = posted(59, 6);
        x.send(0, 0, 12);
        for (int i = 0; i < 8; i++) {
            check.same("push", (59 + i) % 64, x.push(0));
        }
        check.same("a part that is 8 behind", -1, x.push(0));
        check.packet("a part that is 7 behind", x, 7, 1, 0, 2, 4, 0);
        x.deliver(0);
        x.deliver(7);
        check.same("OLDEST", 60, x.pair(0, 2));
        check.same("the part goes now", 3, x.push(0));
        check.packet("it is the LAST", x, 7, 1, 0, 3, 4, 2);
    }

    private static void goesOnAsOldestGoesOn() {
        check.sentence("and its packet's last number is less than 8 numbers behind OLDEST");
        for (int answered = 1; answered <= 8; answered++) {
            RemoteReach x = posted(58, 9);
            x.move(0, false, 0, 12, 0, 0);
            Links.pushAll(x, 0);
            for (int i = 0; i < answered; i++) {
                x.deliver(0);
            }
            x.deliver(x.packets() - 1);
            check.same("OLDEST", (58 + answered) % 64, x.pair(0, 2));
            for (int i = 0; i < Math.min(answered, 4); i++) {
                check.same("one more for each", (58 + 8 + i) % 64, x.push(0));
            }
            check.same("and then none", -1, x.push(0));
        }
    }

    private static void countsReadsWhole() {
        check.sentence("and its packet's last number is less than 8 numbers behind OLDEST");
        RemoteReach x = open(0);
        for (int i = 0; i < 3; i++) {
            x.move(0, true, 0, 12, 0, 0);
        }
        x.add(0, 0, 0, 0, 1);
        check.same("numbers 0 to 2", 0, x.push(0));
        check.same("numbers 3 to 5", 3, x.push(0));
        check.same("numbers 6 to 8", -1, x.push(0));
        x.deliver(0);
        x.deliver(1);
        check.same("OLDEST", 1, x.pair(0, 2));
        check.same("numbers 6 to 8", 6, x.push(0));
        check.same("number 9 is 8 behind", -1, x.push(0));
        x.deliver(1);
        check.same("number 9 is 7 behind", 9, x.push(0));
    }

    private static void cutsRequestsInto4() {
        check.sentence("the packet with the cursor's number (cells 4 k to 4 k + 3 of the request, as far as it has them, for its k-th number");
        for (int kind = 0; kind <= 1; kind++) {
            for (int n = 1; n <= 12; n++) {
                RemoteReach x = open(62);
                Links.fill(x, 0, 20, 12, 100);
                x.receive(1, 3, 12);
                Links.post(x, 0, kind, 20, n, 0, 3);
                Links.pushAll(x, 0);
                check.same("packets of " + n, (n + 3) / 4, x.packets());
                Links.deliverAll(x);
                for (int i = 0; i < 12; i++) {
                    check.same("kind " + kind + " of " + n + ", cell " + i, i < n ? 100 + i : 0, x.cell(1, 3 + i));
                }
            }
        }
    }

    private static void movesAWritesPlaceOn() {
        check.sentence("a WRITE's place moves on with them");
        int[][] cases = {{0, 12}, {20, 12}, {28, 5}, {31, 12}};
        for (int[] c : cases) {
            RemoteReach x = open(0);
            x.move(0, false, 0, c[1], 3, c[0]);
            Links.pushAll(x, 0);
            for (int k = 0; 4 * k < c[1]; k++) {
                check.packet("its part " + k, x, k, 1, 1, k, Math.min(4, c[1] - 4 * k), 3, c[0] + 4 * k);
            }
        }
    }

    private static void sendsTheRestOfARead() {
        check.sentence("for READ one packet for all the request's numbers from the cursor on (its place moved on by 4 for each number before)");
        for (int n = 1; n <= 12; n++) {
            int numbers = (n + 3) / 4;
            for (int answered = 0; answered < numbers; answered++) {
                RemoteReach x = open(62);
                Links.fill(x, 1, 20, 12, 70);
                x.move(0, true, 2, n, 0, 20);
                check.same("push", 62, x.push(0));
                check.packet("whole", x, 0, 1, 2, 62, n, 0, 20);
                x.deliver(0);
                for (int i = 0; i < answered; i++) {
                    x.deliver(0);
                }
                Links.loseFrom(x, 0);
                Links.tick(x, 5);
                int from = (62 + answered) % 64;
                check.same("push again", from, x.push(0));
                check.packet("the rest of " + n, x, 0, 1, 2, from, n - 4 * answered, 0, 20 + 4 * answered);
                check.numbers("behind it", x, 0, (62 + numbers) % 64, from, (62 + numbers) % 64, 0);
                Links.deliverAll(x);
                for (int i = 0; i < 12; i++) {
                    check.same("cell " + i + " of " + n, i < n ? 70 + i : 0, x.cell(0, 2 + i));
                }
                check.completion("done", x, 0, 0, 2, 0, 0, n);
            }
        }
    }

    private static void sendsAnAddAsOne() {
        check.sentence("for ADD its packet");
        int[] ints = {0, 1, -1, Integer.MIN_VALUE, Integer.MAX_VALUE};
        for (int v : ints) {
            RemoteReach x = open(63);
            x.add(0, 31, 0, 31, v);
            check.same("push", 63, x.push(0));
            check.packet("the ADD", x, 0, 1, 3, 63, 0, 0, 31);
            x.deliver(0);
            check.same("its int", v, x.cell(1, 31));
        }
    }

    private static void movesTheCursorBehind() {
        check.sentence("The cursor goes behind the numbers that were sent.");
        RemoteReach x = open(61);
        x.send(0, 0, 5);
        x.move(0, true, 0, 12, 0, 0);
        x.add(0, 0, 0, 0, 1);
        int[] pushed = {61, 62, 63, 2, -1};
        int[] cursor = {62, 63, 2, 3, 3};
        for (int i = 0; i < pushed.length; i++) {
            check.same("push", pushed[i], x.push(0));
            check.numbers("the cursor", x, 0, 3, 61, cursor[i], 0);
        }
    }

    private static void setsTheClockForOldestAlone() {
        check.sentence("If the cursor was OLDEST before, the pair's CLOCK is 0.");
        RemoteReach x = open(0);
        x.move(0, false, 0, 12, 0, 0);
        x.push(0);
        Links.tick(x, 4);
        x.push(0);
        x.push(0);
        check.same("the cursor", 3, x.pair(0, 3));
        x.tick();
        check.same("the clock was not set by a later number", 0, x.pair(0, 3));

        RemoteReach y = open(0);
        y.move(0, false, 0, 8, 0, 0);
        y.push(0);
        y.push(0);
        Links.tick(y, 4);
        y.spoil(0, false);
        Links.deliverAll(y);
        check.same("back by a NAK SEQUENCE, the clock at 4", 0, y.pair(0, 3));
        y.push(0);
        Links.tick(y, 4);
        check.same("the clock was set by OLDEST's sending", 1, y.pair(0, 3));
        y.tick();
        check.same("and runs out", 0, y.pair(0, 3));

        RemoteReach z = open(0);
        z.move(0, false, 0, 8, 0, 0);
        z.push(0);
        z.push(0);
        Links.tick(z, 4);
        z.spoil(0, false);
        Links.deliverAll(z);
        Links.crowd(z, 24);
        z.push(0);
        Links.tick(z, 4);
        check.same("and by a packet that is lost for lack of room", 1, z.pair(0, 3));
    }

    private static void leavesTheClockWhenNothingIsSent() {
        check.sentence("If the cursor was OLDEST before, the pair's CLOCK is 0.");
        RemoteReach x = open(0);
        x.send(0, 0, 1);
        x.push(0);
        Links.tick(x, 4);
        check.same("nothing to send", -1, x.push(0));
        x.tick();
        check.same("so the clock went on", 0, x.pair(0, 3));

        RemoteReach y = open(0);
        y.send(0, 0, 1);
        y.push(0);
        Links.deliverAll(y);
        Links.tick(y, 2);
        check.same("a push while RESTING, where the cursor is OLDEST", -1, y.push(0));
        y.tick();
        check.same("so the rest is over", 0, y.pair(0, 7));
    }
}
