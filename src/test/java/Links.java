/** Objects that stand ready for a test. */
final class Links {
    private Links() {
    }

    /** Pairs 0 and 1 READY, both ways from number 0. */
    static RemoteReach linked(int timeout, int tries, int refusals) {
        return linked(timeout, tries, refusals, 0, 0);
    }

    /** Pairs 0 and 1 READY, pair 0 sending from one number on and pair 1 from another. */
    static RemoteReach linked(int timeout, int tries, int refusals, int first, int back) {
        RemoteReach x = new RemoteReach(timeout, tries, refusals);
        x.ready(0, first, back);
        x.ready(1, back, first);
        return x;
    }

    /** Cells from .. from + n - 1 of a node become v, v + 1, .. */
    static void fill(RemoteReach x, int node, int from, int n, int v) {
        for (int i = 0; i < n; i++) {
            x.store(node, from + i, v + i);
        }
    }

    /** Delivers the first packet until the fabric is empty. */
    static void deliverAll(RemoteReach x) {
        for (int i = 0; i < 200 && x.deliver(0); i++) {
        }
    }

    static void pushAll(RemoteReach x, int q) {
        for (int i = 0; i < 12 && x.push(q) != RemoteReach.NONE; i++) {
        }
    }

    static void tick(RemoteReach x, int times) {
        for (int i = 0; i < times; i++) {
            x.tick();
        }
    }

    /** Fills an empty fabric with packets for pair 3, which is RESET, so that they change nothing. */
    static void crowd(RemoteReach x, int n) {
        x.reset(2);
        x.ready(2, 0, 0);
        x.send(2, 0, 1);
        x.push(2);
        x.reset(2);
        for (int i = 1; i < n; i++) {
            x.spoil(0, true);
        }
    }
}
