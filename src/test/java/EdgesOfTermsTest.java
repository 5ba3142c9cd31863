/** The edges that "Terms" names for memories, regions, completions, pairs, numbers, queues and packets. */
public final class EdgesOfTermsTest {
    private static final Check check = new Check();

    public static void main(String[] args) {
        memoriesHave32Cells();
        regionsAreSix();
        regionsHaveTheirCells();
        rightsAreASum();
        completionsAreAtMost16();
        completionsOfBothPairsShareARow();
        completionsOfAFailureAreLostWithoutRoom();
        completionsOfReceivesAreLostWithoutRoom();
        pairsHaveANodeAndAPeer();
        statesAreThree();
        numbersGoRoundWhenPosted();
        numbersGoRoundOnTheWay();
        numbersGoRoundInAnswers();
        numbersComeRoundForACopy();
        requestsAreAtMost4();
        serialsCountSinceReset();
        requestsTakeNumbersByCells();
        receivesAreAtMost4();
        begunReceivesAreReceivesStill();
        packetsAreAtMost24();
        repliesAreLostWithoutRoom();
        packetsLieAsTheyWereSent();
        packetsHave1To4Cells();
        cellsAreThoseOfTheSending();
        check.end();
    }

    private static RemoteReach open() {
        RemoteReach x = Links.linked(5, 2, 2);
        x.region(1, 0, 0, 32, 7);
        return x;
    }

    private static void write(RemoteReach x, int q) {
        x.move(q, false, 0, 1, 0, 0);
        x.push(q);
        Links.deliverAll(x);
    }

    private static void memoriesHave32Cells() {
        check.sentence("NODES 0 and 1 have a MEMORY of 32 CELLS each (ints, 0 at first)");
        RemoteReach x = new RemoteReach(5, 2, 2);
        for (int i = 0; i < 64; i++) {
            check.same("a cell at first", 0, x.cell(i / 32, i % 32));
            x.store(i / 32, i % 32, i + 1);
        }
        for (int i = 0; i < 64; i++) {
            check.same("each cell is its own", i + 1, x.cell(i / 32, i % 32));
        }
        for (int v : new int[] {Integer.MIN_VALUE, -1, 0, Integer.MAX_VALUE}) {
            x.store(1, 31, v);
            check.same("an int", v, x.cell(1, 31));
        }
        check.argument("a cell 32", () -> x.store(1, 32, 1));
        check.argument("a cell -1", () -> x.store(0, -1, 1));
        check.argument("a node 2", () -> x.store(2, 0, 1));
        check.argument("a node -1", () -> x.store(-1, 0, 1));
    }

    private static void regionsAreSix() {
        check.sentence("REGIONS 0 .. 5 (there or not)");
        for (int region = 0; region < 6; region++) {
            for (int node = 0; node < 2; node++) {
                RemoteReach x = new RemoteReach(5, 2, 2);
                check.no("one that isn't there", Links.reaches(x, 1 - node, 1, 1, region, 9));
                x.region(node, region, 9, 1, 1);
                check.yes("one that is there", Links.reaches(x, 1 - node, 1, 1, region, 9));
                check.no("its neighbour", Links.reaches(x, 1 - node, 1, 1, (region + 1) % 6, 9));
                check.no("the other node's", Links.reaches(x, node, 1, 1, region, 9));
            }
        }
        RemoteReach x = Links.linked(5, 2, 2);
        check.argument("a region 6", () -> x.region(0, 6, 0, 1, 1));
        check.argument("a region -1", () -> x.region(0, -1, 0, 1, 1));
        check.argument("a move by region 6", () -> x.move(0, false, 0, 1, 6, 0));
        check.argument("an add by region -1", () -> x.add(0, 0, -1, 0, 1));
    }

    private static void regionsHaveTheirCells() {
        check.sentence("each with a base, a length (its cells are base .. base + length - 1)");
        int[][] regions = {{0, 1}, {0, 12}, {0, 32}, {31, 1}, {20, 12}, {8, 4}, {9, 2}, {30, 2}};
        for (int[] r : regions) {
            for (int kind = 1; kind <= 3; kind++) {
                int most = kind == 3 ? 1 : Math.min(12, r[1]);
                int behind = r[0] + r[1];
                checkReach(r, kind, 1, r[0], true);
                checkReach(r, kind, 1, behind - 1, true);
                checkReach(r, kind, most, behind - most, true);
                if (r[0] > 0) {
                    checkReach(r, kind, 1, r[0] - 1, false);
                    checkReach(r, kind, most, r[0] - 1, false);
                }
                if (behind < 32) {
                    checkReach(r, kind, 1, behind, false);
                }
                if (kind < 3) {
                    checkReach(r, kind, 2, behind - 1, false);
                    checkReach(r, kind, 12, behind - 11 < 0 ? 0 : behind - 11, false);
                }
            }
        }
    }

    private static void checkReach(int[] region, int kind, int n, int place, boolean due) {
        RemoteReach x = new RemoteReach(5, 2, 2);
        x.region(1, 2, region[0], region[1], 7);
        String what = "kind " + kind + " of " + n + " at " + place + ", base " + region[0] + ", length " + region[1];
        check.same(what, due ? 1 : 0, Links.reaches(x, 0, kind, n, 2, place) ? 1 : 0);
    }

    private static void rightsAreASum() {
        check.sentence("RIGHTS, the sum of 1 WRITE, 2 READ, 4 ADD");
        int[] right = {0, 1, 2, 4};
        for (int rights = 0; rights < 8; rights++) {
            for (int kind = 1; kind <= 3; kind++) {
                RemoteReach x = new RemoteReach(5, 2, 2);
                x.region(1, 0, 0, 32, rights);
                check.same("kind " + kind + " with rights " + rights, (rights & right[kind]) == 0 ? 0 : 1,
                    Links.reaches(x, 0, kind, 1, 0, 0) ? 1 : 0);
            }
        }
    }

    private static void completionsAreAtMost16() {
        check.sentence("a row of COMPLETIONS, at most 16 (one for which there is no room is lost)");
        RemoteReach x = open();
        for (int i = 1; i <= 18; i++) {
            write(x, 0);
            check.same("completions(0) after " + i, Math.min(i, 16), x.completions(0));
            check.same("no request is left", 0, x.pair(0, 5));
        }
        check.same("the other node has a row of its own", 0, x.completions(1));
        check.completion("the first stays", x, 0, 0, 1, 0, 0, 1);
        write(x, 0);
        check.same("room again", 16, x.completions(0));
        for (int i = 1; i < 16; i++) {
            check.completion("those with room", x, 0, 0, 1, i, 0, 1);
        }
        check.completion("behind the two that are lost", x, 0, 0, 1, 18, 0, 1);
        check.same("completions(0)", 0, x.completions(0));
    }

    private static void completionsOfBothPairsShareARow() {
        check.sentence("a row of COMPLETIONS, at most 16 (one for which there is no room is lost)");
        RemoteReach x = open();
        x.ready(2, 0, 0);
        x.ready(3, 0, 0);
        for (int i = 0; i < 9; i++) {
            write(x, 0);
            write(x, 2);
        }
        check.same("completions(0)", 16, x.completions(0));
        for (int i = 0; i < 16; i++) {
            check.completion("by turns", x, 0, i % 2 * 2, 1, i / 2, 0, 1);
        }
    }

    private static void completionsOfAFailureAreLostWithoutRoom() {
        check.sentence("a row of COMPLETIONS, at most 16 (one for which there is no room is lost)");
        for (int room = 0; room <= 4; room++) {
            RemoteReach x = open();
            for (int i = room; i < 16; i++) {
                write(x, 0);
            }
            x.receive(0, 0, 1);
            x.receive(0, 0, 1);
            x.send(0, 0, 2);
            x.send(0, 0, 3);
            x.push(0);
            Links.deliverAll(x);
            failByRefusals(x);
            check.same("state", 2, x.pair(0, 0));
            check.same("completions(0) with room for " + room, 16, x.completions(0));
            check.same("requests", 0, x.pair(0, 5));
            check.same("receives", 0, x.pair(0, 6));
            int serial = 16 - room;
            int[][] due = {{0, 0, serial, 2, 2}, {0, 0, serial + 1, 5, 3}, {0, 4, 0, 5, 0}, {0, 4, 1, 5, 0}};
            for (int i = room; i < 16; i++) {
                x.poll(0, -1);
            }
            for (int i = 0; i < room; i++) {
                check.completion("one with room", x, 0, due[i]);
            }
            check.same("completions(0)", 0, x.completions(0));
        }
    }

    /** Pair 0 has got one NOT READY, and two are allowed. */
    private static void failByRefusals(RemoteReach x) {
        for (int i = 0; i < 2; i++) {
            Links.tick(x, 3);
            x.push(0);
            Links.deliverAll(x);
        }
    }

    private static void completionsOfReceivesAreLostWithoutRoom() {
        check.sentence("a row of COMPLETIONS, at most 16 (one for which there is no room is lost)");
        RemoteReach x = open();
        for (int i = 0; i < 17; i++) {
            x.receive(1, 4, 1);
            x.store(0, 3, i);
            x.send(0, 3, 1);
            x.push(0);
            Links.deliverAll(x);
        }
        check.same("completions(1)", 16, x.completions(1));
        check.same("the message has come all the same", 16, x.cell(1, 4));
        check.same("and its receive is gone", 0, x.pair(1, 6));
        check.same("and it is answered", 17, x.pair(0, 2));
        check.completion("the first stays", x, 1, 1, 4, 0, 0, 1);
    }

    private static void pairsHaveANodeAndAPeer() {
        check.sentence("QUEUE PAIRS 0 .. 3: pair q is of node q % 2, its PEER is q + 1 if q is even, else q - 1.");
        int[] peers = {1, 0, 3, 2};
        for (int q = 0; q < 4; q++) {
            RemoteReach x = new RemoteReach(5, 2, 2);
            int peer = peers[q];
            int there = 1 - q % 2;
            x.region(there, 0, 0, 32, 7);
            x.store(q % 2, 3, 77);
            x.ready(q, 10, 0);
            x.ready(peer, 0, 10);
            x.receive(peer, 9, 1);
            x.move(q, false, 3, 1, 0, 4);
            x.send(q, 3, 1);
            Links.pushAll(x, q);
            check.packet("for the peer", x, 0, peer, 1, 10);
            x.deliver(0);
            x.deliver(0);
            check.packet("the answer is for the pair", x, 0, q, 5, 10);
            Links.deliverAll(x);
            check.same("written there", 77, x.cell(there, 4));
            check.same("sent there", 77, x.cell(there, 9));
            check.same("not here", 0, x.cell(q % 2, 4));
            check.completion("the node of the pair", x, q % 2, q, 1, 0, 0, 1);
            check.completion("the node of the pair", x, q % 2, q, 0, 1, 0, 1);
            check.completion("the node of the peer", x, there, peer, 4, 0, 0, 1);
        }
        RemoteReach x = new RemoteReach(5, 2, 2);
        check.same("a pair 4", -1, x.pair(4, 0));
        check.same("a pair -1", -1, x.pair(-1, 0));
    }

    private static void statesAreThree() {
        check.sentence("Its STATE is 0 RESET (at first), 1 READY, or 2 FAILED.");
        for (int q = 0; q < 4; q++) {
            RemoteReach x = new RemoteReach(2, 0, 0);
            check.same("at first", 0, x.pair(q, 0));
            x.ready(q, 0, 0);
            check.same("made READY", 1, x.pair(q, 0));
            x.send(q, 0, 1);
            x.push(q);
            Links.tick(x, 2);
            check.same("FAILED", 2, x.pair(q, 0));
            x.reset(q);
            check.same("RESET again", 0, x.pair(q, 0));
            x.ready(q, 0, 0);
            check.same("READY again", 1, x.pair(q, 0));
        }
    }

    private static void numbersGoRoundWhenPosted() {
        check.sentence("NUMBERS of packets are 0 .. 63; 0 comes behind 63 again.");
        int[][] cases = {{0, 1, 0}, {0, 5, 1}, {1, 12, 2}, {2, 8, 1}, {2, 12, 2}, {3, 1, 0}};
        for (int[] c : cases) {
            RemoteReach x = Links.linked(5, 2, 2, 63, 0);
            Links.post(x, 0, c[0], 0, c[1], 0, 0);
            check.numbers("kind " + c[0] + " of " + c[1], x, 0, c[2], 63, 63, 0);
            check.same("its first packet", 63, x.push(0));
            Links.post(x, 0, 3, 0, 1, 0, 0);
            check.same("the request behind it", c[2] + 1, x.pair(0, 1));
        }
    }

    private static void numbersGoRoundOnTheWay() {
        check.sentence("NUMBERS of packets are 0 .. 63; 0 comes behind 63 again.");
        for (int kind = 0; kind <= 2; kind++) {
            RemoteReach x = Links.linked(5, 2, 2, 62, 0);
            x.region(1, 0, 0, 32, 7);
            x.receive(1, 0, 12);
            Links.post(x, 0, kind, 0, 12, 0, 0);
            Links.pushAll(x, 0);
            check.numbers("sent", x, 0, 1, 62, 1, 0);
            int sent = x.packets();
            for (int i = 0; i < sent; i++) {
                check.same("packet " + i, (62 + i) % 64, x.packet(i, 2));
            }
            for (int i = 0; i < sent; i++) {
                x.deliver(0);
            }
            for (int i = 0; i < 3; i++) {
                check.same("answer " + i, (62 + i) % 64, x.packet(i, 2));
            }
            check.same("EXPECTED", 1, x.pair(1, 4));
            Links.deliverAll(x);
            check.numbers("answered", x, 0, 1, 1, 1, 0);
        }
        RemoteReach x = Links.linked(2, 1, 2, 63, 0);
        x.send(0, 0, 8);
        Links.pushAll(x, 0);
        Links.tick(x, 2);
        check.numbers("back from 1 to 63", x, 0, 1, 63, 63, 0);
    }

    private static void numbersGoRoundInAnswers() {
        check.sentence("NUMBERS of packets are 0 .. 63; 0 comes behind 63 again.");
        RemoteReach x = Links.linked(5, 2, 2, 62, 0);
        x.region(1, 0, 0, 32, 7);
        x.move(0, false, 0, 12, 0, 0);
        Links.pushAll(x, 0);
        for (int i = 0; i < 3; i++) {
            x.deliver(0);
        }
        x.deliver(2);
        check.numbers("an ACK with 0 answers 62 and 63", x, 0, 1, 1, 1, 0);

        RemoteReach y = Links.linked(5, 2, 2, 63, 0);
        y.region(1, 0, 0, 32, 7);
        y.move(0, false, 0, 12, 0, 0);
        Links.pushAll(y, 0);
        y.deliver(0);
        y.spoil(0, false);
        y.deliver(0);
        check.packet("NAK SEQUENCE", y, 1, 0, 6, 0, 0, 1);
        y.deliver(1);
        check.numbers("a NAK with 0 answers 63", y, 0, 2, 0, 0, 0);

        RemoteReach z = Links.linked(5, 2, 2, 63, 0);
        z.region(1, 0, 0, 32, 7);
        z.move(0, false, 0, 1, 0, 0);
        z.push(0);
        z.spoil(0, true);
        z.deliver(0);
        check.same("EXPECTED", 0, z.pair(1, 4));
        z.deliver(0);
        check.packet("the number before 0", z, 1, 0, 5, 63);
    }

    private static void numbersComeRoundForACopy() {
        check.sentence("done at most once (but for a copy that comes when its number has come round again)");
        int[][] answers = {{1, 5, 0}, {2, 5, 1}, {31, 5, 30}, {32, 5, 31}, {33, 6, 33}, {63, 6, 63}, {64, 5, 0}, {65, 5, 0}};
        for (int[] due : answers) {
            int on = due[0];
            RemoteReach x = withCopyOfNumber0(on);
            check.same("EXPECTED", on % 64, x.pair(1, 4));
            x.store(1, 0, 6);
            x.deliver(0);
            boolean again = on == 64;
            check.same("the cell, " + on + " numbers on", again ? 5 : 6, x.cell(1, 0));
            check.same("EXPECTED, " + on + " numbers on", (again ? on + 1 : on) % 64, x.pair(1, 4));
            check.packet("the answer, " + on + " numbers on", x, 0, 0, due[1], due[2]);
        }
    }

    /** A copy of a WRITE of 5 to cell 0, with number 0, is left, and so many numbers are done since 0. */
    private static RemoteReach withCopyOfNumber0(int done) {
        RemoteReach x = open();
        x.store(0, 0, 5);
        x.move(0, false, 0, 1, 0, 0);
        x.push(0);
        x.spoil(0, true);
        x.deliver(0);
        x.deliver(1);
        for (int i = 1; i < done; i++) {
            x.add(0, 1, 0, 1, 1);
            x.push(0);
            x.deliver(1);
            x.deliver(1);
        }
        return x;
    }

    private static void requestsAreAtMost4() {
        check.sentence("REQUESTS of a pair lie in its SEND QUEUE, at most 4");
        for (int kind = 0; kind < 4; kind++) {
            RemoteReach x = open();
            x.move(0, false, 0, 1, 0, 0);
            for (int i = 1; i < 4; i++) {
                check.same("serial of kind " + kind, i, Links.post(x, 0, kind, 0, 5, 0, 0));
            }
            int next = x.pair(0, 1);
            for (int fifth = 0; fifth < 4; fifth++) {
                int k = fifth;
                check.state("a fifth one of kind " + k, () -> Links.post(x, 0, k, 0, 1, 0, 0));
            }
            check.same("requests", 4, x.pair(0, 5));
            check.same("NEXT", next, x.pair(0, 1));
            check.same("another pair has its own", 0, x.send(1, 0, 1));
            x.push(0);
            Links.deliverAll(x);
            check.same("one is done", 3, x.pair(0, 5));
            check.same("room for one", 4, Links.post(x, 0, kind, 0, 1, 0, 0));
            check.state("and no more", () -> Links.post(x, 0, 3, 0, 1, 0, 0));
        }
    }

    private static void serialsCountSinceReset() {
        check.sentence("with SERIALS 0, 1, .. (since it was RESET)");
        RemoteReach x = open();
        for (int i = 0; i < 9; i++) {
            check.argument("a wrong one takes none", () -> x.send(0, 0, 13));
            check.same("serial", i, Links.post(x, 0, 1 + i % 3, 0, 1, 0, 0));
            x.push(0);
            Links.deliverAll(x);
        }
        x.reset(0);
        check.state("one for a RESET pair takes none", () -> x.send(0, 0, 1));
        x.ready(0, 9, 0);
        check.same("anew", 0, x.add(0, 0, 0, 0, 1));
        check.same("the peer's own", 0, x.send(1, 0, 1));
    }

    private static void requestsTakeNumbersByCells() {
        check.sentence("They take numbers from NEXT on as they are posted: one for each 4 cells, or part of 4 (ADD one).");
        int[] numbers = {0, 1, 1, 1, 1, 2, 2, 2, 2, 3, 3, 3, 3};
        for (int n = 1; n <= 12; n++) {
            for (int kind = 0; kind < 4; kind++) {
                RemoteReach x = Links.linked(5, 2, 2, 61, 0);
                Links.post(x, 0, kind, 0, n, 0, 0);
                int due = 61 + (kind == 3 ? 1 : numbers[n]);
                check.numbers("kind " + kind + " of " + n, x, 0, due % 64, 61, 61, 0);
            }
        }
    }

    private static void receivesAreAtMost4() {
        check.sentence("RECEIVES lie in its RECEIVE QUEUE, at most 4, with serials of their own");
        RemoteReach x = new RemoteReach(5, 2, 2);
        x.ready(0, 0, 0);
        for (int i = 0; i < 4; i++) {
            check.same("serial", i, x.receive(1, i, 1));
        }
        check.state("a fifth one of a RESET pair", () -> x.receive(1, 0, 1));
        x.ready(1, 0, 0);
        check.state("a fifth one of a READY pair", () -> x.receive(1, 0, 1));
        check.same("receives", 4, x.pair(1, 6));
        check.same("requests have their own serials", 0, x.send(1, 0, 1));
        check.same("another pair has its own", 0, x.receive(3, 0, 1));
        x.send(0, 0, 1);
        x.push(0);
        x.deliver(0);
        check.same("one is done", 3, x.pair(1, 6));
        check.same("room for one", 4, x.receive(1, 0, 1));
        check.state("and no more", () -> x.receive(1, 0, 1));
        x.reset(1);
        check.same("serials anew", 0, x.receive(1, 0, 1));
    }

    private static void begunReceivesAreReceivesStill() {
        check.sentence("RECEIVES lie in its RECEIVE QUEUE, at most 4, with serials of their own");
        RemoteReach x = open();
        for (int i = 0; i < 4; i++) {
            x.receive(1, 0, 8);
        }
        x.send(0, 0, 8);
        Links.pushAll(x, 0);
        x.deliver(0);
        check.same("the begun one is counted", 4, x.pair(1, 6));
        check.state("a fifth one", () -> x.receive(1, 0, 1));
        x.deliver(0);
        check.same("it is completed", 3, x.pair(1, 6));
        check.same("room for one", 4, x.receive(1, 0, 1));
        check.same("receives", 4, x.pair(1, 6));
    }

    private static void packetsAreAtMost24() {
        check.sentence("PACKETS are in the FABRIC, at most 24, in the order in which they were sent (one for which there is no room is lost).");
        for (int kind = 0; kind < 4; kind++) {
            RemoteReach x = open();
            Links.crowd(x, 23);
            x.send(1, 0, 1);
            Links.post(x, 0, kind, 0, 1, 0, 0);
            check.same("the 24th", 0, x.push(1));
            check.same("packets()", 24, x.packets());
            check.same("the 25th is sent", 0, x.push(0));
            check.same("and lost", 24, x.packets());
            check.packet("the last one", x, 23, 0, 0, 0);
            check.numbers("the cursor is behind it", x, 0, 1, 0, 1, 0);
            check.no("no copy", x.spoil(0, true));
            x.spoil(0, false);
            check.same("it doesn't come back", 23, x.packets());
        }
    }

    private static void repliesAreLostWithoutRoom() {
        check.sentence("PACKETS are in the FABRIC, at most 24, in the order in which they were sent (one for which there is no room is lost).");
        for (int others = 20; others <= 23; others++) {
            RemoteReach x = open();
            Links.crowd(x, others);
            Links.fill(x, 1, 0, 12, 50);
            x.move(0, true, 0, 12, 0, 0);
            x.push(0);
            x.deliver(others);
            int came = Math.min(3, 24 - others);
            check.same("packets()", others + came, x.packets());
            check.same("EXPECTED", 3, x.pair(1, 4));
            for (int i = 0; i < came; i++) {
                check.packet("a REPLY with room", x, others + i, 0, 4, i, 4);
            }
            for (int i = 0; i < came; i++) {
                x.deliver(others);
            }
            check.same("OLDEST", came, x.pair(0, 2));
            check.same("cells that came", 50 + 4 * came - 1, x.cell(0, 4 * came - 1));
            check.same("completions(0)", came == 3 ? 1 : 0, x.completions(0));
        }
    }

    private static void packetsLieAsTheyWereSent() {
        check.sentence("in the order in which they were sent");
        RemoteReach x = open();
        for (int q = 2; q < 4; q++) {
            x.ready(q, 20 * q, 0);
        }
        for (int q = 3; q >= 0; q--) {
            x.move(q, false, 0, 8, 0, 0);
            x.push(q);
        }
        x.push(0);
        x.deliver(3);
        x.push(3);
        int[][] due = {{2, 60}, {3, 40}, {0, 0}, {1, 1}, {0, 0}, {2, 61}};
        int[] kinds = {1, 1, 1, 1, 5, 1};
        check.same("packets()", due.length, x.packets());
        for (int k = 0; k < due.length; k++) {
            check.packet("in order", x, k, due[k][0], kinds[k], due[k][1]);
        }
    }

    private static void packetsHave1To4Cells() {
        check.sentence("0 SEND: its 1 to 4 cells, and whether it is the FIRST and the LAST of its request");
        for (int n = 1; n <= 12; n++) {
            RemoteReach x = open();
            x.send(0, 0, n);
            x.move(0, false, 0, n, 0, 3);
            Links.pushAll(x, 0);
            int parts = (n + 3) / 4;
            check.same("packets of " + n + " cells", 2 * parts, x.packets());
            for (int k = 0; k < parts; k++) {
                int cells = k < parts - 1 ? 4 : n - 4 * (parts - 1);
                int mark = (k == 0 ? 1 : 0) + (k == parts - 1 ? 2 : 0);
                check.packet("SEND of " + n, x, k, 1, 0, k, cells, mark, -1);
                check.packet("WRITE of " + n, x, parts + k, 1, 1, parts + k, cells, 0, 3 + 4 * k);
            }
        }
    }

    private static void cellsAreThoseOfTheSending() {
        check.sentence("Cells are what they are when the packet is sent.");
        for (int kind = 0; kind <= 1; kind++) {
            RemoteReach x = open();
            x.receive(1, 0, 5);
            Links.fill(x, 0, 0, 5, 10);
            Links.post(x, 0, kind, 0, 5, 0, 0);
            Links.fill(x, 0, 0, 5, 20);
            x.push(0);
            Links.fill(x, 0, 0, 5, 30);
            x.push(0);
            Links.fill(x, 0, 0, 5, 40);
            Links.deliverAll(x);
            check.same("kind " + kind + ": not of the posting", 20, x.cell(1, 0));
            check.same("kind " + kind + ": its fourth", 23, x.cell(1, 3));
            check.same("kind " + kind + ": of its second packet's sending", 34, x.cell(1, 4));
        }
        RemoteReach x = open();
        Links.fill(x, 1, 0, 5, 10);
        x.move(0, true, 0, 5, 0, 0);
        x.push(0);
        Links.fill(x, 1, 0, 5, 20);
        x.deliver(0);
        Links.fill(x, 1, 0, 5, 30);
        Links.deliverAll(x);
        check.same("REPLIES, when they are sent", 20, x.cell(0, 0));
        check.same("REPLIES, when they are sent", 24, x.cell(0, 4));
    }
}
