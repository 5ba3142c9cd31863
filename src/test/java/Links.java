/** Objects that stand ready for a test. */
final class Links {
    static final int REPLY = 4;
    static final int ACK = 5;
    static final int NAK = 6;

    private Links() {
    }

    /** Pairs 0 and 1 READY, both ways from number 0. */
    static RemoteReach linked(int timeout, int tries, int refusals) {
        return linked(timeout, tries, refusals, 0, 0);
    }

    /** Pairs 0 and 1 READY, pair 0 sending from one number on and pair 1 from another. */
    static RemoteReach linked(int timeout, int tries, int refusals, int first, int back) {
        RemoteReach x = new RemoteReach(timeout, tries, refusals);
        x.ready(0, first, back);
        x.ready(1, back, first);
        return x;
    }

    /** Cells from .. from + n - 1 of a node become v, v + 1, .. */
    static void fill(RemoteReach x, int node, int from, int n, int v) {
        for (int i = 0; i < n; i++) {
            x.store(node, from + i, v + i);
        }
    }

    /** Delivers the first packet until the fabric is empty. */
    static void deliverAll(RemoteReach x) {
        for (int i = 0; i < 200 && x.deliver(0); i++) {
        }
    }

    static void pushAll(RemoteReach x, int q) {
        for (int i = 0; i < 12 && x.push(q) != RemoteReach.NONE; i++) {
        }
    }

    static void tick(RemoteReach x, int times) {
        for (int i = 0; i < times; i++) {
            x.tick();
        }
    }

    /** Fills an empty fabric with packets for pair 3, which is RESET, so that they change nothing. */
    static void crowd(RemoteReach x, int n) {
        x.reset(2);
        x.ready(2, 0, 0);
        x.send(2, 0, 1);
        x.push(2);
        x.reset(2);
        for (int i = 1; i < n; i++) {
            x.spoil(0, true);
        }
    }

    static void restart(RemoteReach x, int q, int first, int expected) {
        x.reset(q);
        x.ready(q, first, expected);
    }

    /** Posts a request of a kind: its serial. An ADD is of one cell, and of the int 1. */
    static int post(RemoteReach x, int q, int kind, int here, int n, int region, int place) {
        switch (kind) {
            case 0: return x.send(q, here, n);
            case 3: return x.add(q, here, region, place, 1);
            default: return x.move(q, kind == 2, here, n, region, place);
        }
    }

    /** Loses all packets from one on. */
    static void loseFrom(RemoteReach x, int k) {
        for (int i = 0; i < 24 && x.spoil(k, false); i++) {
        }
    }

    /** Whether a pair's peer lets it reach cells; both start anew, and the fabric is empty before and after. */
    static boolean reaches(RemoteReach x, int q, int kind, int n, int region, int place) {
        int peer = q ^ 1;
        restart(x, q, 0, 0);
        restart(x, peer, 0, 0);
        post(x, q, kind, 0, n, region, place);
        pushAll(x, q);
        int sent = x.packets();
        for (int i = 0; i < sent; i++) {
            x.deliver(0);
        }
        loseFrom(x, 0);
        return x.pair(peer, 0) == 1;
    }

    /**
     * Leaves one answer for pair 0 as the fabric's last packet: a REPLY with 4 cells, an ACK, or a NAK with
     * a reason. Pairs 0 and 1 are RESET then; node 1, which must have no completions, has a region 5.
     */
    static void leaveAnswer(RemoteReach x, int kind, int reason, int number) {
        boolean isEarly = kind == NAK && reason == 1;
        restart(x, 0, (number + (isEarly ? 1 : 0)) % 64, 0);
        restart(x, 1, 0, number);
        x.region(1, 5, 0, 32, 7);
        if (kind == NAK && reason == 4) {
            x.receive(1, 0, 1);
        }
        if (kind == NAK && (reason == 2 || reason == 4)) {
            x.send(0, 0, 2);
        } else {
            x.move(0, kind == REPLY, 28, 4, kind == NAK && reason == 3 ? 4 : 5, 28);
        }
        x.push(0);
        x.deliver(x.packets() - 1);
        if (kind == NAK && reason == 4) {
            x.poll(1, -1);
        }
        x.reset(0);
        x.reset(1);
    }

    /** All that can be seen without a change, but for completions behind the first: a text. */
    static String picture(RemoteReach x) {
        StringBuilder seen = new StringBuilder();
        for (int k = 0; k < x.packets(); k++) {
            seen.append("\npacket");
            for (int what = 0; what < 6; what++) {
                seen.append(' ').append(x.packet(k, what));
            }
        }
        return seen.append(standing(x)).toString();
    }

    /** What can be seen of pairs and nodes: a text. */
    static String standing(RemoteReach x) {
        StringBuilder seen = new StringBuilder();
        for (int q = 0; q < 4; q++) {
            seen.append("\npair");
            for (int what = 0; what < 8; what++) {
                seen.append(' ').append(x.pair(q, what));
            }
        }
        for (int node = 0; node < 2; node++) {
            seen.append("\ncells");
            for (int cell = 0; cell < 32; cell++) {
                seen.append(' ').append(x.cell(node, cell));
            }
            seen.append("\ncompletions ").append(x.completions(node)).append(':');
            for (int what = 0; what < 5 && x.completions(node) > 0; what++) {
                seen.append(' ').append(x.poll(node, what));
            }
        }
        return seen.toString();
    }
}
