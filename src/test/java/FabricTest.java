/** Promises 13 and 15, and the order of packets. */
public final class FabricTest {
    private static final Check check = new Check();

    public static void main(String[] args) {
        losesAPacket();
        copiesAPacket();
        copiesNothingWithoutRoom();
        spoilsNothingThatIsNotThere();
        keepsCopiesWhole();
        keepsTheOrder();
        check.end();
    }

    private static RemoteReach withPackets(int n) {
        RemoteReach x = Links.linked(5, 2, 2);
        x.region(1, 0, 0, 32, 7);
        for (int i = 0; i < n; i++) {
            x.move(0, false, i, 1, 0, i);
        }
        Links.pushAll(x, 0);
        return x;
    }

    private static void checkNumbers(String what, RemoteReach x, int... due) {
        check.same(what + ": packets()", due.length, x.packets());
        for (int k = 0; k < due.length; k++) {
            check.same(what + ": packet(" + k + ", 2)", due[k], x.packet(k, 2));
        }
    }

    private static void losesAPacket() {
        RemoteReach x = withPackets(4);
        check.yes("spoil(1, false)", x.spoil(1, false));
        checkNumbers("one lost", x, 0, 2, 3);
        check.yes("spoil(2, false)", x.spoil(2, false));
        checkNumbers("the last lost", x, 0, 2);
        check.yes("spoil(0, false)", x.spoil(0, false));
        check.yes("spoil(0, false)", x.spoil(0, false));
        checkNumbers("all lost", x);
        check.same("nothing is done", 0, x.pair(1, 4));
    }

    private static void copiesAPacket() {
        RemoteReach x = withPackets(3);
        check.yes("spoil(1, true)", x.spoil(1, true));
        checkNumbers("the copy is the last one", x, 0, 1, 2, 1);
        check.packet("the copy", x, 3, 1, 1, 1, 1, 0, 1);
    }

    private static void copiesNothingWithoutRoom() {
        RemoteReach x = withPackets(1);
        for (int i = 1; i < 24; i++) {
            check.yes("a copy with room", x.spoil(0, true));
        }
        check.no("a copy without room", x.spoil(0, true));
        check.same("packets()", 24, x.packets());
        check.yes("a loss without room", x.spoil(23, false));
        check.yes("a copy with room again", x.spoil(22, true));
    }

    private static void spoilsNothingThatIsNotThere() {
        RemoteReach x = withPackets(2);
        for (int k : new int[] {-1, 2, 24, Integer.MIN_VALUE, Integer.MAX_VALUE}) {
            check.no("spoil(" + k + ", false)", x.spoil(k, false));
            check.no("spoil(" + k + ", true)", x.spoil(k, true));
        }
        checkNumbers("as before", x, 0, 1);
    }

    /** Every part of a copy, those that packet doesn't tell too, by what it does. */
    private static void keepsCopiesWhole() {
        check.sentence("Packet k is lost (copy false), or copied: the copy is the last one");
        RemoteReach x = Links.linked(5, 2, 2);
        x.region(1, 0, 0, 32, 7);
        Links.fill(x, 0, 0, 12, 40);
        x.receive(1, 0, 5);
        x.send(0, 0, 5);
        x.move(0, false, 5, 3, 0, 10);
        x.add(0, 31, 0, 10, 1000);
        x.move(0, true, 20, 3, 0, 10);
        Links.pushAll(x, 0);
        for (int i = 0; i < 5; i++) {
            x.spoil(0, true);
            x.spoil(0, false);
        }
        Links.fill(x, 0, 0, 12, 0);
        for (int i = 0; i < 5; i++) {
            x.deliver(0);
        }
        for (int i = 0; i < 5; i++) {
            x.spoil(0, true);
            x.spoil(0, false);
        }
        Links.deliverAll(x);
        check.same("a SEND's cells", 44, x.cell(1, 4));
        check.same("a WRITE's cells", 47, x.cell(1, 12));
        check.same("an ADD's int", 1045, x.cell(1, 10));
        check.same("a REPLY's cell", 45, x.cell(0, 31));
        check.same("REPLIES' cells", 1045, x.cell(0, 20));
        check.same("REPLIES' cells", 47, x.cell(0, 22));
        check.same("completions(0)", 4, x.completions(0));
    }

    private static void keepsTheOrder() {
        check.sentence("in the order in which they were sent");
        RemoteReach x = withPackets(4);
        x.deliver(0);
        check.same("an answer is the last", 5, x.packet(3, 1));
        x.deliver(2);
        checkNumbers("taken from the middle", x, 1, 2, 0, 1);
        x.add(1, 0, 0, 0, 0);
        x.push(1);
        check.packet("what is sent is the last", x, 4, 0, 3, 0);
    }
}
