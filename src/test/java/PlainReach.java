import java.util.ArrayDeque;
import java.util.ArrayList;
import java.util.Deque;
import java.util.List;

/**
 * The document once more, with lists that grow and no thought of room: each number of a request is a
 * Unit of its own, and OLDEST and the cursor are places in the row of units. RandomRunsTest lets it
 * answer beside RemoteReach, so that a slip in one of them shows.
 */
final class PlainReach {
    private static final int SEND = 0;
    private static final int WRITE = 1;
    private static final int READ = 2;
    private static final int ADD = 3;
    private static final int REPLY = 4;
    private static final int ACK = 5;
    private static final int NAK = 6;

    record Area(int base, int length, int rights) {
    }

    record Done(int pair, int kind, int serial, int status, int length) {
        int part(int what) {
            return switch (what) {
                case 0 -> pair;
                case 1 -> kind;
                case 2 -> serial;
                case 3 -> status;
                default -> length;
            };
        }
    }

    record Message(int to, int kind, int number, List<Integer> cells, int asked, int mark, int place, int value) {
        int part(int what) {
            return switch (what) {
                case 0 -> to;
                case 1 -> kind;
                case 2 -> number;
                case 3 -> kind == READ ? asked : cells.size();
                case 4 -> mark;
                case 5 -> place;
                default -> -1;
            };
        }
    }

    record Job(int kind, int serial, int here, int n, int region, int place, int value) {
    }

    /** One number of a job: the k-th one, the last or not, with the cells of the job that it stands for. */
    record Unit(Job job, int k, boolean last) {
        int size() {
            return last ? job.n - 4 * k : 4;
        }

        boolean brings() {
            return job.kind == READ || job.kind == ADD;
        }
    }

    static final class Inbox {
        final int serial;
        final int from;
        final int n;
        int came;
        boolean begun;

        Inbox(int serial, int from, int n) {
            this.serial = serial;
            this.from = from;
            this.n = n;
        }
    }

    static final class End {
        int state;
        int oldest;
        int expected;
        int sent;
        int clock;
        int tries;
        int refusals;
        int jobs;
        int inboxes;
        boolean resting;
        boolean told;
        final List<Unit> units = new ArrayList<>();
        final Deque<Inbox> boxes = new ArrayDeque<>();
        final List<int[]> adds = new ArrayList<>();

        List<Job> open() {
            List<Job> open = new ArrayList<>();
            for (Unit u : units) {
                if (u.last) {
                    open.add(u.job);
                }
            }
            return open;
        }
    }

    private final int timeout;
    private final int tries;
    private final int refusals;
    private final int[][] memory = new int[2][32];
    private final Area[][] areas = new Area[2][6];
    private final List<Deque<Done>> done = List.of(new ArrayDeque<>(), new ArrayDeque<>());
    private final End[] ends = {new End(), new End(), new End(), new End()};
    private final List<Message> air = new ArrayList<>();

    PlainReach(int timeout, int tries, int refusals) {
        this.timeout = timeout < 2 ? 2 : timeout > 20 ? 20 : timeout;
        this.tries = tries < 0 ? 0 : tries > 7 ? 7 : tries;
        this.refusals = refusals < 0 ? 0 : refusals > 7 ? 7 : refusals;
    }

    private static boolean in(int v, int low, int high) {
        return low <= v && v <= high;
    }

    private static void argument(boolean ok) {
        if (!ok) {
            throw new IllegalArgumentException();
        }
    }

    private static void state(boolean ok) {
        if (!ok) {
            throw new IllegalStateException();
        }
    }

    void region(int node, int region, int base, int length, int rights) {
        argument(in(node, 0, 1) && in(region, 0, 5) && base >= 0 && length >= 0);
        argument((long) base + length <= 32 && in(rights, 0, 7));
        areas[node][region] = length == 0 ? null : new Area(base, length, rights);
    }

    void store(int node, int cell, int v) {
        argument(in(node, 0, 1) && in(cell, 0, 31));
        memory[node][cell] = v;
    }

    int cell(int node, int cell) {
        return in(node, 0, 1) && in(cell, 0, 31) ? memory[node][cell] : 0;
    }

    void ready(int q, int first, int expected) {
        argument(in(q, 0, 3) && in(first, 0, 63) && in(expected, 0, 63));
        End e = ends[q];
        state(e.state == 0);
        e.state = 1;
        e.oldest = first;
        e.expected = expected;
    }

    boolean reset(int q) {
        if (!in(q, 0, 3)) {
            return false;
        }
        ends[q] = new End();
        return true;
    }

    private int post(int q, int kind, int here, int n, int region, int place, int v) {
        End e = ends[q];
        state(e.state == 1 && e.open().size() < 4);
        Job job = new Job(kind, e.jobs++, here, n, region, place, v);
        for (int k = 0; 4 * k < n; k++) {
            e.units.add(new Unit(job, k, 4 * k + 4 >= n));
        }
        return job.serial;
    }

    private static void cells(int from, int n) {
        argument(in(n, 1, 12) && in(from, 0, 31) && from + n <= 32);
    }

    int send(int q, int from, int n) {
        argument(in(q, 0, 3));
        cells(from, n);
        return post(q, SEND, from, n, -1, -1, 0);
    }

    int move(int q, boolean reads, int here, int n, int region, int place) {
        argument(in(q, 0, 3) && in(region, 0, 5) && in(place, 0, 31));
        cells(here, n);
        return post(q, reads ? READ : WRITE, here, n, region, place, 0);
    }

    int add(int q, int here, int region, int place, int v) {
        argument(in(q, 0, 3) && in(region, 0, 5) && in(place, 0, 31));
        cells(here, 1);
        return post(q, ADD, here, 1, region, place, v);
    }

    int receive(int q, int from, int n) {
        argument(in(q, 0, 3));
        cells(from, n);
        End e = ends[q];
        state(e.state != 2 && e.boxes.size() < 4);
        e.boxes.addLast(new Inbox(e.inboxes++, from, n));
        return e.inboxes - 1;
    }

    private List<Integer> look(int q, int from, int n) {
        List<Integer> cells = new ArrayList<>();
        for (int i = 0; i < n; i++) {
            cells.add(memory[q % 2][from + i]);
        }
        return cells;
    }

    private void fly(Message m) {
        if (air.size() < 24) {
            air.add(m);
        }
    }

    private void answer(int q, int kind, int number, List<Integer> cells, int mark) {
        fly(new Message(q % 2 == 0 ? q + 1 : q - 1, kind, Math.floorMod(number, 64), cells, 0, mark, -1, 0));
    }

    int push(int q) {
        if (!in(q, 0, 3) || ends[q].state != 1 || ends[q].resting || ends[q].sent == ends[q].units.size()) {
            return -1;
        }
        End e = ends[q];
        Unit u = e.units.get(e.sent);
        int goes = 1;
        if (u.job.kind == READ) {
            while (!e.units.get(e.sent + goes - 1).last) {
                goes++;
            }
        }
        if (e.sent + goes - 1 >= 8) {
            return -1;
        }
        int number = (e.oldest + e.sent) % 64;
        fly(packetOf(q, u, number));
        if (e.sent == 0) {
            e.clock = 0;
        }
        e.sent += goes;
        return number;
    }

    private Message packetOf(int q, Unit u, int number) {
        int to = q % 2 == 0 ? q + 1 : q - 1;
        Job job = u.job;
        int there = job.place + 4 * u.k;
        return switch (job.kind) {
            case SEND -> new Message(to, SEND, number, look(q, job.here + 4 * u.k, u.size()), 0,
                (u.k == 0 ? 1 : 0) + (u.last ? 2 : 0), -1, 0);
            case WRITE -> new Message(to, WRITE, number, look(q, job.here + 4 * u.k, u.size()), 0, job.region, there, 0);
            case READ -> new Message(to, READ, number, List.of(), job.n - 4 * u.k, job.region, there, 0);
            default -> new Message(to, ADD, number, List.of(), 1, job.region, there, job.value);
        };
    }

    boolean deliver(int k) {
        if (k < 0 || k >= air.size()) {
            return false;
        }
        Message m = air.remove(k);
        End e = ends[m.to];
        if (e.state != 1) {
            return true;
        }
        if (m.kind > ADD) {
            answered(m.to, e, m);
        } else {
            int d = Math.floorMod(m.number - e.expected, 64);
            if (d == 0) {
                due(m.to, e, m);
            } else if (d > 31) {
                again(m.to, e, m);
            } else if (!e.told) {
                answer(m.to, NAK, e.expected, List.of(), 1);
                e.told = true;
            }
        }
        return true;
    }

    private boolean allowed(int q, Message m) {
        Area a = areas[q % 2][m.mark];
        int n = m.kind == WRITE ? m.cells.size() : m.asked;
        int right = m.kind == WRITE ? 1 : m.kind == READ ? 2 : 4;
        return a != null && m.place >= a.base && m.place + n <= a.base + a.length && (a.rights & right) == right;
    }

    private void replies(int q, Message m) {
        for (int i = 0; 4 * i < m.asked; i++) {
            answer(q, REPLY, m.number + i, look(q, m.place + 4 * i, Math.min(4, m.asked - 4 * i)), -1);
        }
    }

    private void again(int q, End e, Message m) {
        if (m.kind == SEND || m.kind == WRITE) {
            answer(q, ACK, e.expected - 1, List.of(), -1);
        } else if (m.kind == READ) {
            if (allowed(q, m)) {
                replies(q, m);
            }
        } else {
            for (int i = e.adds.size() - 1; i >= 0 && i >= e.adds.size() - 2; i--) {
                if (e.adds.get(i)[0] == m.number) {
                    answer(q, REPLY, m.number, List.of(e.adds.get(i)[1]), -1);
                    return;
                }
            }
        }
    }

    private void due(int q, End e, Message m) {
        if (m.kind == SEND) {
            message(q, e, m);
            return;
        }
        if (!allowed(q, m)) {
            answer(q, NAK, m.number, List.of(), 3);
            fail(q, 5, 5);
            return;
        }
        if (m.kind == WRITE) {
            for (int i = 0; i < m.cells.size(); i++) {
                memory[q % 2][m.place + i] = m.cells.get(i);
            }
            answer(q, ACK, m.number, List.of(), -1);
        } else if (m.kind == READ) {
            replies(q, m);
        } else {
            int was = memory[q % 2][m.place];
            e.adds.add(new int[] {m.number, was});
            answer(q, REPLY, m.number, List.of(was), -1);
            memory[q % 2][m.place] = was + m.value;
        }
        e.expected = (e.expected + (m.kind == READ ? (m.asked + 3) / 4 : 1)) % 64;
        e.told = false;
    }

    private void message(int q, End e, Message m) {
        boolean first = m.mark == 1 || m.mark == 3;
        Inbox box = e.boxes.peekFirst();
        boolean begun = box != null && box.begun;
        if (first && begun || !first && !begun) {
            return;
        }
        if (box == null) {
            answer(q, NAK, m.number, List.of(), 2);
            return;
        }
        box.begun = true;
        if (box.came + m.cells.size() > box.n) {
            answer(q, NAK, m.number, List.of(), 4);
            fail(q, 5, 4);
            return;
        }
        for (int v : m.cells) {
            memory[q % 2][box.from + box.came++] = v;
        }
        if (m.mark >= 2) {
            e.boxes.removeFirst();
            complete(q, 4, box.serial, 0, box.came);
        }
        e.expected = (e.expected + 1) % 64;
        e.told = false;
        answer(q, ACK, m.number, List.of(), -1);
    }

    private void answered(int q, End e, Message m) {
        int at = Math.floorMod(m.number - e.oldest, 64);
        if (at >= e.sent) {
            return;
        }
        if (m.kind == ACK) {
            acknowledged(q, e, at + 1);
        } else if (m.kind == REPLY) {
            Unit u = e.units.get(0);
            if (at == 0 && u.brings()) {
                for (int i = 0; i < u.size() && i < m.cells.size(); i++) {
                    memory[q % 2][u.job.here + 4 * u.k + i] = m.cells.get(i);
                }
                answerFirst(q, e);
            }
        } else {
            acknowledged(q, e, at);
            if (m.number == e.oldest) {
                refused(q, e, m.mark);
            }
        }
    }

    private void acknowledged(int q, End e, int n) {
        for (int i = 0; i < n && !e.units.get(0).brings(); i++) {
            answerFirst(q, e);
        }
    }

    private void answerFirst(int q, End e) {
        Unit u = e.units.remove(0);
        e.sent--;
        e.oldest = (e.oldest + 1) % 64;
        e.clock = 0;
        e.tries = 0;
        e.refusals = 0;
        e.resting = false;
        if (u.last) {
            complete(q, u.job.kind, u.job.serial, 0, u.job.n);
        }
    }

    private void refused(int q, End e, int reason) {
        if (reason > 2) {
            fail(q, reason, 5);
            return;
        }
        e.sent = 0;
        if (reason == 2) {
            e.resting = true;
            e.clock = 0;
            e.refusals++;
            if (e.refusals > refusals) {
                fail(q, 2, 5);
            }
        }
    }

    private void complete(int q, int kind, int serial, int status, int length) {
        if (done.get(q % 2).size() < 16) {
            done.get(q % 2).addLast(new Done(q, kind, serial, status, length));
        }
    }

    private void fail(int q, int jobStatus, int boxStatus) {
        End e = ends[q];
        e.state = 2;
        int status = jobStatus;
        for (Job job : e.open()) {
            complete(q, job.kind, job.serial, status, job.n);
            status = 5;
        }
        for (Inbox box : e.boxes) {
            complete(q, 4, box.serial, box.begun ? boxStatus : 5, box.came);
        }
        e.units.clear();
        e.boxes.clear();
    }

    boolean spoil(int k, boolean copy) {
        if (k < 0 || k >= air.size() || copy && air.size() >= 24) {
            return false;
        }
        if (copy) {
            air.add(air.get(k));
        } else {
            air.remove(k);
        }
        return true;
    }

    int tick() {
        int failed = 0;
        for (int q = 0; q < 4; q++) {
            End e = ends[q];
            if (e.state == 1 && (e.sent > 0 || e.resting)) {
                e.clock++;
                if (e.resting && e.clock == 3) {
                    e.resting = false;
                    e.clock = 0;
                } else if (!e.resting && e.clock == timeout) {
                    e.clock = 0;
                    e.tries++;
                    if (e.tries > tries) {
                        fail(q, 1, 5);
                        failed++;
                    } else {
                        e.sent = 0;
                    }
                }
            }
        }
        return failed;
    }

    int packets() {
        return air.size();
    }

    int packet(int k, int what) {
        return k < 0 || k >= air.size() ? -1 : air.get(k).part(what);
    }

    int pair(int q, int what) {
        if (!in(q, 0, 3)) {
            return -1;
        }
        End e = ends[q];
        boolean ready = e.state == 1;
        return switch (what) {
            case 0 -> e.state;
            case 1 -> ready ? (e.oldest + e.units.size()) % 64 : -1;
            case 2 -> ready ? e.oldest : -1;
            case 3 -> ready ? (e.oldest + e.sent) % 64 : -1;
            case 4 -> ready ? e.expected : -1;
            case 5 -> e.open().size();
            case 6 -> e.boxes.size();
            case 7 -> e.resting ? 1 : 0;
            default -> -1;
        };
    }

    int completions(int node) {
        return in(node, 0, 1) ? done.get(node).size() : -1;
    }

    int poll(int node, int what) {
        argument(in(node, 0, 1) && in(what, -1, 4));
        if (what >= 0) {
            return done.get(node).getFirst().part(what);
        }
        done.get(node).removeFirst();
        return 0;
    }
}
