/** Promises 11, 15 and 16: what a pair sends, and what its packets tell. */
public final class SendingTest {
    private static final Check check = new Check();

    public static void main(String[] args) {
        cutsASend();
        cutsAWrite();
        sendsOnePacketForARead();
        sendsAnAdd();
        sendsRequestsInOrder();
        sendsARestOfARead();
        keepsWithinTheWindow();
        waitsForAWholeReadInTheWindow();
        goesRoundAtTheLastNumber();
        takesCellsWhenItSends();
        losesWhatHasNoRoom();
        sendsNothingWhenItCannot();
        tellsOfPacketsThatAnswer();
        tellsNoneWhereNothingIs();
        check.end();
    }

    private static void cutsASend() {
        RemoteReach x = Links.linked(5, 2, 2, 5, 0);
        x.send(0, 0, 9);
        x.send(0, 0, 4);
        check.same("push", 5, x.push(0));
        check.same("push", 6, x.push(0));
        check.same("push", 7, x.push(0));
        check.same("push", 8, x.push(0));
        check.same("push", -1, x.push(0));
        check.same("packets()", 4, x.packets());
        check.packet("the first", x, 0, 1, 0, 5, 4, 1, -1);
        check.packet("in the middle", x, 1, 1, 0, 6, 4, 0, -1);
        check.packet("the last", x, 2, 1, 0, 7, 1, 2, -1);
        check.packet("first and last", x, 3, 1, 0, 8, 4, 3, -1);
        check.numbers("all sent", x, 0, 9, 5, 9, 0);
    }

    private static void cutsAWrite() {
        RemoteReach x = Links.linked(5, 2, 2, 0, 0);
        x.move(1, false, 3, 6, 4, 30);
        check.same("push", 0, x.push(1));
        check.same("push", 1, x.push(1));
        check.packet("the first", x, 0, 0, 1, 0, 4, 4, 30);
        check.packet("the last, its place beyond the memory", x, 1, 0, 1, 1, 2, 4, 34);
    }

    private static void sendsOnePacketForARead() {
        RemoteReach x = Links.linked(5, 2, 2, 63, 0);
        x.move(0, true, 3, 12, 2, 7);
        check.same("push", 63, x.push(0));
        check.same("push", -1, x.push(0));
        check.packet("the READ", x, 0, 1, 2, 63, 12, 2, 7);
        check.numbers("the cursor is behind all its numbers", x, 0, 2, 63, 2, 0);
    }

    private static void sendsAnAdd() {
        RemoteReach x = Links.linked(5, 2, 2, 9, 0);
        x.add(0, 3, 5, 31, 8);
        check.same("push", 9, x.push(0));
        check.packet("the ADD", x, 0, 1, 3, 9, 0, 5, 31);
    }

    private static void sendsRequestsInOrder() {
        RemoteReach x = new RemoteReach(5, 2, 2);
        x.ready(3, 0, 0);
        x.add(3, 0, 0, 0, 0);
        x.move(3, true, 0, 8, 1, 1);
        x.send(3, 0, 1);
        x.move(3, false, 0, 1, 2, 2);
        int[] due = {0, 1, 3, 4, -1};
        for (int number : due) {
            check.same("push", number, x.push(3));
        }
        int[] kinds = {3, 2, 0, 1};
        for (int k = 0; k < kinds.length; k++) {
            check.packet("in order", x, k, 2, kinds[k], due[k]);
        }
    }

    private static void sendsARestOfARead() {
        RemoteReach x = Links.linked(2, 2, 2);
        x.region(1, 0, 0, 32, 2);
        x.move(0, true, 0, 10, 0, 5);
        x.push(0);
        x.deliver(0);
        x.deliver(0);
        x.spoil(0, false);
        x.spoil(0, false);
        check.numbers("one number is answered", x, 0, 3, 1, 3, 0);
        Links.tick(x, 2);
        check.same("push", 1, x.push(0));
        check.packet("from the second number on", x, 0, 1, 2, 1, 6, 0, 9);
        check.numbers("the cursor is behind its numbers", x, 0, 3, 1, 3, 0);
    }

    private static void keepsWithinTheWindow() {
        RemoteReach x = Links.linked(5, 2, 2, 60, 0);
        x.region(1, 0, 0, 32, 7);
        for (int i = 0; i < 3; i++) {
            x.move(0, false, 0, 12, 0, 0);
        }
        for (int i = 0; i < 8; i++) {
            check.same("push", (60 + i) % 64, x.push(0));
        }
        check.same("the ninth", -1, x.push(0));
        check.numbers("the cursor", x, 0, 5, 60, 4, 0);
        x.deliver(0);
        x.deliver(7);
        check.numbers("one is answered", x, 0, 5, 61, 4, 0);
        check.same("the ninth now", 4, x.push(0));
    }

    private static void waitsForAWholeReadInTheWindow() {
        RemoteReach x = Links.linked(5, 2, 2);
        x.region(1, 0, 0, 32, 7);
        x.move(0, false, 0, 12, 0, 0);
        x.move(0, false, 0, 12, 0, 0);
        x.move(0, true, 0, 12, 0, 0);
        for (int i = 0; i < 6; i++) {
            check.same("push", i, x.push(0));
        }
        check.same("a READ whose last number is 8 behind", -1, x.push(0));
        x.deliver(0);
        x.deliver(5);
        check.same("a READ whose last number is 7 behind", 6, x.push(0));
    }

    private static void goesRoundAtTheLastNumber() {
        RemoteReach x = Links.linked(5, 2, 2, 62, 0);
        x.region(1, 0, 0, 32, 7);
        for (int i = 0; i < 30; i++) {
            x.move(0, false, 0, 12, 0, 0);
            Links.pushAll(x, 0);
            Links.deliverAll(x);
            check.same("OLDEST", (62 + 3 * (i + 1)) % 64, x.pair(0, 2));
        }
        check.same("EXPECTED", (62 + 90) % 64, x.pair(1, 4));
    }

    private static void takesCellsWhenItSends() {
        RemoteReach x = Links.linked(2, 2, 2);
        x.region(1, 0, 0, 32, 7);
        x.store(0, 0, 1);
        x.move(0, false, 0, 1, 0, 0);
        x.store(0, 0, 2);
        x.push(0);
        x.store(0, 0, 3);
        x.deliver(0);
        check.same("as it was when it was sent", 2, x.cell(1, 0));
        x.spoil(0, false);
        x.move(0, false, 0, 1, 0, 1);
        x.push(0);
        x.spoil(0, false);
        Links.tick(x, 2);
        x.push(0);
        x.push(0);
        x.store(0, 0, 4);
        Links.deliverAll(x);
        check.same("as it was when it was sent again", 3, x.cell(1, 1));
    }

    private static void losesWhatHasNoRoom() {
        RemoteReach x = Links.linked(2, 2, 2);
        Links.crowd(x, 24);
        x.send(0, 0, 8);
        check.same("push", 0, x.push(0));
        check.same("push", 1, x.push(0));
        check.same("push", -1, x.push(0));
        check.same("packets()", 24, x.packets());
        check.packet("the last one is another's", x, 23, 3, 0, 0, 1, 3, -1);
        check.numbers("the cursor has moved", x, 0, 2, 0, 2, 0);
        Links.tick(x, 2);
        check.same("the cursor after the timeout", 0, x.pair(0, 3));
        x.spoil(0, false);
        check.same("push", 0, x.push(0));
        check.packet("now it has room", x, 23, 1, 0, 0, 4, 1, -1);
    }

    private static void sendsNothingWhenItCannot() {
        RemoteReach x = Links.linked(2, 0, 2);
        for (int q : new int[] {-1, 4, Integer.MIN_VALUE, Integer.MAX_VALUE}) {
            check.same("push(" + q + ")", -1, x.push(q));
        }
        check.same("RESET", -1, x.push(2));
        check.same("nothing posted", -1, x.push(0));
        x.send(0, 0, 1);
        x.push(0);
        Links.deliverAll(x);
        check.same("RESTING", -1, x.push(0));
        Links.tick(x, 3);
        check.same("rested", 0, x.push(0));
        Links.tick(x, 2);
        check.same("FAILED", -1, x.push(0));
    }

    private static void tellsOfPacketsThatAnswer() {
        RemoteReach x = Links.linked(5, 2, 2, 7, 0);
        x.region(1, 0, 0, 32, 7);
        x.move(0, false, 0, 4, 0, 0);
        x.move(0, true, 0, 5, 0, 0);
        x.add(0, 0, 0, 0, 1);
        x.send(0, 0, 1);
        Links.pushAll(x, 0);
        for (int i = 0; i < 4; i++) {
            x.deliver(0);
        }
        check.same("packets()", 5, x.packets());
        check.packet("ACK", x, 0, 0, 5, 7, 0, -1, -1);
        check.packet("REPLY of 4", x, 1, 0, 4, 8, 4, -1, -1);
        check.packet("REPLY of what is left", x, 2, 0, 4, 9, 1, -1, -1);
        check.packet("REPLY to an ADD", x, 3, 0, 4, 10, 1, -1, -1);
        check.packet("NAK NOT READY", x, 4, 0, 6, 11, 0, 2, -1);
    }

    private static void tellsNoneWhereNothingIs() {
        RemoteReach x = Links.linked(5, 2, 2);
        check.same("an empty fabric", -1, x.packet(0, 0));
        x.send(0, 0, 1);
        x.push(0);
        int[][] wrong = {{-1, 0}, {1, 0}, {24, 0}, {Integer.MIN_VALUE, 0}, {Integer.MAX_VALUE, 0}, {0, -1}, {0, 6},
            {0, Integer.MAX_VALUE}, {0, Integer.MIN_VALUE}};
        for (int[] w : wrong) {
            check.same("packet(" + w[0] + ", " + w[1] + ")", -1, x.packet(w[0], w[1]));
        }
    }
}
