/** Objects that stand ready for a test. */
final class Links {
    private Links() {
    }

    /** Pairs 0 and 1 READY, both ways from number 0. */
    static RemoteReach linked(int timeout, int tries, int refusals) {
        return linked(timeout, tries, refusals, 0, 0);
    }

    /** Pairs 0 and 1 READY, pair 0 sending from one number on and pair 1 from another. */
    static RemoteReach linked(int timeout, int tries, int refusals, int first, int back) {
        RemoteReach x = new RemoteReach(timeout, tries, refusals);
        x.ready(0, first, back);
        x.ready(1, back, first);
        return x;
    }

    /** Cells from .. from + n - 1 of a node become v, v + 1, .. */
    static void fill(RemoteReach x, int node, int from, int n, int v) {
        for (int i = 0; i < n; i++) {
            x.store(node, from + i, v + i);
        }
    }

    /** Delivers the first packet until the fabric is empty. */
    static void deliverAll(RemoteReach x) {
        for (int i = 0; i < 200 && x.deliver(0); i++) {
        }
    }

    static void pushAll(RemoteReach x, int q) {
        for (int i = 0; i < 12 && x.push(q) != RemoteReach.NONE; i++) {
        }
    }

    static void tick(RemoteReach x, int times) {
        for (int i = 0; i < times; i++) {
            x.tick();
        }
    }

    /** Fills the fabric up with ACKs for pair 2, which is RESET, so that they change nothing. */
    static void crowd(RemoteReach x, int upTo) {
        if (x.packets() == 0) {
            throw new AssertionError("there is nothing to copy");
        }
        while (x.packets() < upTo) {
            x.spoil(0, true);
        }
    }
}
