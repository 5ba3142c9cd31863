import java.util.NoSuchElementException;

/**
 * Two nodes that write and read each other's memory and send each other messages by queue pairs,
 * over a fabric that loses, copies and mixes packets.
 *
 * All rows are made in the constructor and used again, so that no later call makes an object.
 */
public final class RemoteReach {
    public static final int NONE = -1;

    private static final int NODES = 2;
    private static final int CELLS = 32;
    private static final int REGIONS = 6;
    private static final int WRITE_RIGHT = 1;
    private static final int READ_RIGHT = 2;
    private static final int ADD_RIGHT = 4;
    private static final int ALL_RIGHTS = WRITE_RIGHT + READ_RIGHT + ADD_RIGHT;
    private static final int MOST_COMPLETIONS = 16;
    private static final int COMPLETION_PARTS = 5;

    private static final int PAIRS = 4;
    private static final int MOST_POSTED = 4;
    private static final int MOST_CELLS = 12;

    private static final int NUMBERS = 64;
    private static final int WINDOW = 8;
    private static final int FIRST_OF_THE_PAST = 32;

    private static final int MOST_PACKETS = 24;
    private static final int PACKET_CELLS = 4;

    private static final int RESET = 0;
    private static final int READY = 1;
    private static final int FAILED = 2;

    private static final int SEND = 0;
    private static final int WRITE = 1;
    private static final int READ = 2;
    private static final int ADD = 3;
    private static final int REPLY = 4;
    private static final int ACK = 5;
    private static final int NAK = 6;

    /** The kind of a receive's completion; requests have the kinds of their packets. */
    private static final int RECEIVE = 4;

    private static final int FIRST = 1;
    private static final int LAST = 2;

    /** The reasons of a NAK; the last three are the statuses of what fails by them, too. */
    private static final int SEQUENCE = 1;
    private static final int NOT_READY = 2;
    private static final int ACCESS = 3;
    private static final int LENGTH = 4;

    private static final int DONE = 0;
    private static final int TIMED_OUT = 1;
    private static final int FLUSHED = 5;

    private static final int REST = 3;
    private static final int KEPT_ADDS = 2;

    private final Node[] nodes;
    private final Pair[] pairs;
    private final Fabric fabric;

    public RemoteReach(int timeout, int tries, int refusals) {
        int wait = within(timeout, 2, 20);
        int mostTries = within(tries, 0, 7);
        int mostRefusals = within(refusals, 0, 7);
        fabric = new Fabric();
        nodes = new Node[NODES];
        for (int i = 0; i < NODES; i++) {
            nodes[i] = new Node();
        }
        pairs = new Pair[PAIRS];
        for (int q = 0; q < PAIRS; q++) {
            Node node = nodes[q % NODES];
            Requester requester = new Requester(q, node, fabric, wait, mostTries, mostRefusals);
            pairs[q] = new Pair(requester, new Responder(q, node, fabric));
        }
    }

    public void region(int node, int region, int base, int length, int rights) throws IllegalArgumentException {
        require(isNode(node) && isRegion(region) && rights >= 0 && rights <= ALL_RIGHTS);
        require(base >= 0 && length >= 0 && length <= CELLS - base);
        nodes[node].regions[region].become(base, length, rights);
    }

    public void store(int node, int cell, int v) throws IllegalArgumentException {
        require(isNode(node) && isCell(cell));
        nodes[node].put(cell, v);
    }

    public int cell(int node, int cell) {
        return isNode(node) ? nodes[node].at(cell) : 0;
    }

    public void ready(int q, int first, int expected) throws IllegalArgumentException, IllegalStateException {
        require(isPair(q) && isNumber(first) && isNumber(expected));
        requireState(pairs[q].state == RESET);
        pairs[q].start(first, expected);
    }

    public boolean reset(int q) {
        if (!isPair(q)) {
            return false;
        }
        pairs[q].clear();
        return true;
    }

    public int send(int q, int from, int n) throws IllegalArgumentException, IllegalStateException {
        require(isPair(q) && areCells(from, n));
        requireState(pairs[q].takesRequests());
        return pairs[q].requester.post(SEND, from, n, NONE, NONE, 0);
    }

    public int move(int q, boolean reads, int here, int n, int region, int place)
            throws IllegalArgumentException, IllegalStateException {
        require(isPair(q) && areCells(here, n) && isRegion(region) && isCell(place));
        requireState(pairs[q].takesRequests());
        return pairs[q].requester.post(reads ? READ : WRITE, here, n, region, place, 0);
    }

    public int add(int q, int here, int region, int place, int v)
            throws IllegalArgumentException, IllegalStateException {
        require(isPair(q) && isCell(here) && isRegion(region) && isCell(place));
        requireState(pairs[q].takesRequests());
        return pairs[q].requester.post(ADD, here, 1, region, place, v);
    }

    public int receive(int q, int from, int n) throws IllegalArgumentException, IllegalStateException {
        require(isPair(q) && areCells(from, n));
        requireState(pairs[q].takesReceives());
        return pairs[q].responder.receives.append(RECEIVE, from, n).serial;
    }

    public int push(int q) {
        return isPair(q) && pairs[q].state == READY ? pairs[q].requester.sendNext() : NONE;
    }

    public boolean deliver(int k) {
        if (!fabric.has(k)) {
            return false;
        }
        Packet packet = fabric.takeOut(k);
        pairs[packet.pair].takeIn(packet);
        return true;
    }

    public boolean spoil(int k, boolean copy) {
        if (!fabric.has(k) || (copy && fabric.isFull())) {
            return false;
        }
        if (copy) {
            fabric.copyToEnd(k);
        } else {
            fabric.takeOut(k);
        }
        return true;
    }

    public int tick() {
        int failed = 0;
        for (int q = 0; q < PAIRS; q++) {
            if (pairs[q].failsByTime()) {
                failed++;
            }
        }
        return failed;
    }

    public int packets() {
        return fabric.count;
    }

    public int packet(int k, int what) {
        return fabric.has(k) ? fabric.rows[k].tell(what) : NONE;
    }

    public int pair(int q, int what) {
        return isPair(q) ? pairs[q].tell(what) : NONE;
    }

    public int completions(int node) {
        return isNode(node) ? nodes[node].completed : NONE;
    }

    public int poll(int node, int what) throws IllegalArgumentException, NoSuchElementException {
        require(isNode(node) && what >= -1 && what < COMPLETION_PARTS);
        if (nodes[node].completed == 0) {
            throw new NoSuchElementException();
        }
        if (what >= 0) {
            return nodes[node].tellFirst(what);
        }
        nodes[node].dropFirst();
        return 0;
    }

    private static void require(boolean holds) {
        if (!holds) {
            throw new IllegalArgumentException();
        }
    }

    private static void requireState(boolean holds) {
        if (!holds) {
            throw new IllegalStateException();
        }
    }

    private static int within(int v, int low, int high) {
        return Math.max(low, Math.min(high, v));
    }

    private static boolean isNode(int node) {
        return node >= 0 && node < NODES;
    }

    private static boolean isRegion(int region) {
        return region >= 0 && region < REGIONS;
    }

    private static boolean isCell(int cell) {
        return cell >= 0 && cell < CELLS;
    }

    private static boolean areCells(int from, int n) {
        return n >= 1 && n <= MOST_CELLS && from >= 0 && from <= CELLS - n;
    }

    private static boolean isPair(int q) {
        return q >= 0 && q < PAIRS;
    }

    private static boolean isNumber(int number) {
        return number >= 0 && number < NUMBERS;
    }

    private static int after(int number, int steps) {
        return (number + steps) & (NUMBERS - 1);
    }

    private static int before(int number) {
        return after(number, -1);
    }

    /** How far a number is behind another one, going round at 64. */
    private static int distance(int from, int to) {
        return (to - from) & (NUMBERS - 1);
    }

    private static int peerOf(int q) {
        return q ^ 1;
    }

    private static int numbersFor(int cells) {
        return (cells + PACKET_CELLS - 1) / PACKET_CELLS;
    }

    private static final class Region {
        int base;
        int length;
        int rights;

        void become(int newBase, int newLength, int newRights) {
            base = newBase;
            length = newLength;
            rights = newRights;
        }

        boolean allows(int place, int n, int right) {
            return length > 0 && place >= base && place + n <= base + length && (rights & right) != 0;
        }
    }

    private static final class Node {
        final int[] cells = new int[CELLS];
        final Region[] regions = new Region[REGIONS];

        /** A ring of completions, each with its parts in the order in which poll counts them. */
        final int[] ring = new int[MOST_COMPLETIONS * COMPLETION_PARTS];
        int head;
        int completed;

        Node() {
            for (int i = 0; i < REGIONS; i++) {
                regions[i] = new Region();
            }
        }

        int at(int cell) {
            return isCell(cell) ? cells[cell] : 0;
        }

        void put(int cell, int v) {
            if (isCell(cell)) {
                cells[cell] = v;
            }
        }

        boolean allows(int region, int place, int n, int right) {
            return isRegion(region) && regions[region].allows(place, n, right);
        }

        void complete(int q, Posted posted, int status) {
            if (completed == MOST_COMPLETIONS) {
                return;
            }
            int at = (head + completed) % MOST_COMPLETIONS * COMPLETION_PARTS;
            ring[at] = q;
            ring[at + 1] = posted.kind;
            ring[at + 2] = posted.serial;
            ring[at + 3] = status;
            ring[at + 4] = posted.kind == RECEIVE ? posted.came : posted.n;
            completed++;
        }

        int tellFirst(int what) {
            return ring[head * COMPLETION_PARTS + what];
        }

        void dropFirst() {
            head = (head + 1) % MOST_COMPLETIONS;
            completed--;
        }
    }

    private static final class Packet {
        int pair;
        int kind;
        int number;

        /** How many cells it has, or, for a READ, asks for. */
        int count;

        /** The region, the REASON, or FIRST + 2 LAST, as the kind has it; else NONE. */
        int mark;
        int place;
        int value;
        final int[] cells = new int[PACKET_CELLS];

        void become(int newPair, int newKind, int newNumber) {
            pair = newPair;
            kind = newKind;
            number = newNumber;
            count = 0;
            mark = NONE;
            place = NONE;
            value = 0;
        }

        void becomeLike(Packet other) {
            become(other.pair, other.kind, other.number);
            count = other.count;
            mark = other.mark;
            place = other.place;
            value = other.value;
            for (int i = 0; i < PACKET_CELLS; i++) {
                cells[i] = other.cells[i];
            }
        }

        void load(Node node, int from, int n) {
            count = Math.min(n, PACKET_CELLS);
            for (int i = 0; i < count; i++) {
                cells[i] = node.at(from + i);
            }
        }

        void unload(Node node, int from, int most) {
            for (int i = 0; i < count && i < most && i < PACKET_CELLS; i++) {
                node.put(from + i, cells[i]);
            }
        }

        boolean isFirst() {
            return (mark & FIRST) != 0;
        }

        boolean isLast() {
            return (mark & LAST) != 0;
        }

        /** Whether the node's region lets it do what it asks (kinds 1 to 3). */
        boolean isAllowed(Node node) {
            switch (kind) {
                case WRITE: return node.allows(mark, place, count, WRITE_RIGHT);
                case READ: return node.allows(mark, place, count, READ_RIGHT);
                default: return node.allows(mark, place, 1, ADD_RIGHT);
            }
        }

        int tell(int what) {
            switch (what) {
                case 0: return pair;
                case 1: return kind;
                case 2: return number;
                case 3: return count;
                case 4: return mark;
                case 5: return place;
                default: return NONE;
            }
        }
    }

    private static final class Fabric {
        final Packet[] rows = new Packet[MOST_PACKETS];
        int count;

        /** Where the packet taken out last lies, so that what answers it can't write over it. */
        Packet taken = new Packet();

        /** What is sent when there is no room is written here, where nobody reads it. */
        final Packet lost = new Packet();

        Fabric() {
            for (int i = 0; i < MOST_PACKETS; i++) {
                rows[i] = new Packet();
            }
        }

        boolean has(int k) {
            return k >= 0 && k < count;
        }

        boolean isFull() {
            return count == MOST_PACKETS;
        }

        /** Sends a packet, which the caller fills with what its kind needs. */
        Packet carry(int pair, int kind, int number) {
            Packet packet = isFull() ? lost : rows[count++];
            packet.become(pair, kind, number);
            return packet;
        }

        Packet takeOut(int k) {
            Packet packet = rows[k];
            for (int i = k + 1; i < count; i++) {
                rows[i - 1] = rows[i];
            }
            count--;
            rows[count] = taken;
            taken = packet;
            return packet;
        }

        void copyToEnd(int k) {
            rows[count].becomeLike(rows[k]);
            count++;
        }
    }

    /** A request or a receive that was posted. */
    private static final class Posted {
        int kind;
        int serial;
        int here;
        int n;

        /** Of a request: its numbers, and what it reaches on the other node. */
        int first;
        int numbers;
        int region;
        int place;
        int value;

        /** Of a receive: how many cells came. */
        int came;

        int cellsOf(int k) {
            return Math.min(PACKET_CELLS, n - PACKET_CELLS * k);
        }

        boolean isLastNumber(int k) {
            return k == numbers - 1;
        }

        /** Whether REPLIES answer it, and no ACK. */
        boolean awaitsReply() {
            return kind == READ || kind == ADD;
        }
    }

    /** The send queue or the receive queue of a pair: a ring of rows. */
    private static final class Queue {
        final int pair;
        final Node node;
        final Posted[] rows = new Posted[MOST_POSTED];
        int head;
        int count;
        int serials;

        Queue(int pair, Node node) {
            this.pair = pair;
            this.node = node;
            for (int i = 0; i < MOST_POSTED; i++) {
                rows[i] = new Posted();
            }
        }

        void clear() {
            head = 0;
            count = 0;
            serials = 0;
        }

        boolean isFull() {
            return count == MOST_POSTED;
        }

        Posted at(int i) {
            return rows[(head + i) % MOST_POSTED];
        }

        Posted append(int kind, int here, int n) {
            Posted posted = at(count);
            posted.kind = kind;
            posted.serial = serials;
            posted.here = here;
            posted.n = n;
            posted.came = 0;
            serials++;
            count++;
            return posted;
        }

        void completeFirst(int status) {
            node.complete(pair, at(0), status);
            head = (head + 1) % MOST_POSTED;
            count--;
        }

        void completeAll(int firstStatus) {
            int status = firstStatus;
            for (int i = 0; i < MOST_POSTED && count > 0; i++) {
                completeFirst(status);
                status = FLUSHED;
            }
        }
    }

    /** The side of a pair that sends its requests and takes what answers them. */
    private static final class Requester {
        final int peer;
        final Node node;
        final Fabric fabric;
        final int timeout;
        final int mostTries;
        final int mostRefusals;
        final Queue requests;

        int next;
        int oldest;
        int cursor;
        int clock;
        int tries;
        int refusals;
        boolean resting;

        Requester(int pair, Node node, Fabric fabric, int timeout, int mostTries, int mostRefusals) {
            peer = peerOf(pair);
            this.node = node;
            this.fabric = fabric;
            this.timeout = timeout;
            this.mostTries = mostTries;
            this.mostRefusals = mostRefusals;
            requests = new Queue(pair, node);
        }

        void clear() {
            requests.clear();
            start(0);
            clock = 0;
            tries = 0;
            refusals = 0;
            resting = false;
        }

        void start(int first) {
            next = first;
            oldest = first;
            cursor = first;
        }

        int post(int kind, int here, int n, int region, int place, int value) {
            Posted request = requests.append(kind, here, n);
            request.first = next;
            request.numbers = numbersFor(n);
            request.region = region;
            request.place = place;
            request.value = value;
            next = after(next, request.numbers);
            return request.serial;
        }

        /** Which request in the queue has a number, NONE if none has. */
        int ownerOf(int number) {
            for (int i = 0; i < requests.count; i++) {
                Posted request = requests.at(i);
                if (distance(request.first, number) < request.numbers) {
                    return i;
                }
            }
            return NONE;
        }

        int sendNext() {
            int owner = ownerOf(cursor);
            if (resting || owner == NONE) {
                return NONE;
            }
            Posted request = requests.at(owner);
            int k = distance(request.first, cursor);
            int numbers = request.kind == READ ? request.numbers - k : 1;
            if (distance(oldest, cursor) + numbers > WINDOW) {
                return NONE;
            }
            sendPart(request, k);
            if (cursor == oldest) {
                clock = 0;
            }
            int sent = cursor;
            cursor = after(cursor, numbers);
            return sent;
        }

        void sendPart(Posted request, int k) {
            Packet packet = fabric.carry(peer, request.kind, after(request.first, k));
            int done = PACKET_CELLS * k;
            if (request.kind == SEND) {
                packet.mark = (k == 0 ? FIRST : 0) + (request.isLastNumber(k) ? LAST : 0);
            } else {
                packet.mark = request.region;
                packet.place = request.place + done;
            }
            if (request.kind == READ) {
                packet.count = request.n - done;
            } else if (request.kind == ADD) {
                packet.value = request.value;
            } else {
                packet.load(node, request.here + done, request.cellsOf(k));
            }
        }

        /** Whether a number was sent and isn't answered, so that an answer with it means something. */
        boolean isOpen(int number) {
            return distance(oldest, number) < distance(oldest, cursor);
        }

        void takeAck(int number) {
            if (!isOpen(number)) {
                return;
            }
            int asked = distance(oldest, number) + 1;
            int answered = 0;
            while (answered < asked && !awaitsReply(after(oldest, answered))) {
                answered++;
            }
            answer(answered);
        }

        boolean awaitsReply(int number) {
            int owner = ownerOf(number);
            return owner != NONE && requests.at(owner).awaitsReply();
        }

        void takeReply(Packet packet) {
            if (packet.number != oldest || cursor == oldest || !awaitsReply(oldest)) {
                return;
            }
            Posted request = requests.at(0);
            int k = distance(request.first, oldest);
            packet.unload(node, request.here + PACKET_CELLS * k, request.cellsOf(k));
            answer(1);
        }

        /** The status by which the pair fails then, DONE if it doesn't. */
        int takeNak(int number, int reason) {
            if (!isOpen(number)) {
                return DONE;
            }
            takeAck(before(number));
            if (number != oldest) {
                return DONE;
            }
            if (reason == ACCESS || reason == LENGTH) {
                return reason;
            }
            cursor = oldest;
            return reason == NOT_READY ? rest() : DONE;
        }

        int rest() {
            resting = true;
            clock = 0;
            refusals++;
            return refusals > mostRefusals ? NOT_READY : DONE;
        }

        void answer(int numbers) {
            if (numbers == 0) {
                return;
            }
            oldest = after(oldest, numbers);
            clock = 0;
            tries = 0;
            refusals = 0;
            resting = false;
            for (int i = 0; i < MOST_POSTED && firstIsAnswered(); i++) {
                requests.completeFirst(DONE);
            }
        }

        boolean firstIsAnswered() {
            Posted request = requests.at(0);
            return requests.count > 0 && distance(request.first, oldest) >= request.numbers;
        }

        /** Lets time pass: whether that was one try too many. */
        boolean waitsTooLong() {
            if (cursor == oldest && !resting) {
                return false;
            }
            clock++;
            if (clock < (resting ? REST : timeout)) {
                return false;
            }
            clock = 0;
            if (resting) {
                resting = false;
                return false;
            }
            tries++;
            if (tries > mostTries) {
                return true;
            }
            cursor = oldest;
            return false;
        }
    }

    /** The side of a pair that does what the peer's requests ask, and answers them. */
    private static final class Responder {
        final int peer;
        final Node node;
        final Fabric fabric;
        final Queue receives;

        int expected;
        boolean begun;
        boolean sequenceTold;

        /** The latest ADDs that were done, the newest first, so that a copy gets the same REPLY. */
        final int[] addNumbers = new int[KEPT_ADDS];
        final int[] addReplies = new int[KEPT_ADDS];

        Responder(int pair, Node node, Fabric fabric) {
            peer = peerOf(pair);
            this.node = node;
            this.fabric = fabric;
            receives = new Queue(pair, node);
            forgetAdds();
        }

        void clear() {
            receives.clear();
            expected = 0;
            begun = false;
            sequenceTold = false;
            forgetAdds();
        }

        void forgetAdds() {
            for (int i = 0; i < KEPT_ADDS; i++) {
                addNumbers[i] = NONE;
                addReplies[i] = 0;
            }
        }

        /** Takes a request's packet: the status of a begun receive if the pair fails then, else DONE. */
        int takeIn(Packet packet) {
            int ahead = distance(expected, packet.number);
            if (ahead >= FIRST_OF_THE_PAST) {
                answerAgain(packet);
                return DONE;
            }
            if (ahead > 0) {
                tellSequence();
                return DONE;
            }
            return packet.kind == SEND ? takeSend(packet) : takeReach(packet);
        }

        void tellSequence() {
            if (!sequenceTold) {
                refuse(expected, SEQUENCE);
                sequenceTold = true;
            }
        }

        void answerAgain(Packet packet) {
            if (packet.kind == READ) {
                if (packet.isAllowed(node)) {
                    replyCells(packet);
                }
            } else if (packet.kind == ADD) {
                int kept = keptAdd(packet.number);
                if (kept != NONE) {
                    replyOne(packet.number, addReplies[kept]);
                }
            } else {
                acknowledge(before(expected));
            }
        }

        /** Which of the kept ADDs had a number, NONE if none had. */
        int keptAdd(int number) {
            for (int i = 0; i < KEPT_ADDS; i++) {
                if (addNumbers[i] == number) {
                    return i;
                }
            }
            return NONE;
        }

        int takeSend(Packet packet) {
            // A start within a message, or a part without a start, is no part of what is awaited.
            if (packet.isFirst() == begun) {
                return DONE;
            }
            if (receives.count == 0) {
                refuse(packet.number, NOT_READY);
                return DONE;
            }
            begun = true;
            Posted receive = receives.at(0);
            int room = receive.n - receive.came;
            if (packet.count > room) {
                refuse(packet.number, LENGTH);
                return LENGTH;
            }
            packet.unload(node, receive.here + receive.came, room);
            receive.came += packet.count;
            if (packet.isLast()) {
                receives.completeFirst(DONE);
                begun = false;
            }
            advance(1);
            acknowledge(packet.number);
            return DONE;
        }

        int takeReach(Packet packet) {
            if (!packet.isAllowed(node)) {
                refuse(packet.number, ACCESS);
                return FLUSHED;
            }
            if (packet.kind == READ) {
                replyCells(packet);
                advance(numbersFor(packet.count));
            } else if (packet.kind == ADD) {
                replyOne(packet.number, growCell(packet));
                advance(1);
            } else {
                packet.unload(node, packet.place, packet.count);
                advance(1);
                acknowledge(packet.number);
            }
            return DONE;
        }

        /** Does an ADD and keeps it: what the cell was before. */
        int growCell(Packet packet) {
            int was = node.at(packet.place);
            node.put(packet.place, was + packet.value);
            for (int i = KEPT_ADDS - 1; i > 0; i--) {
                addNumbers[i] = addNumbers[i - 1];
                addReplies[i] = addReplies[i - 1];
            }
            addNumbers[0] = packet.number;
            addReplies[0] = was;
            return was;
        }

        void advance(int numbers) {
            expected = after(expected, numbers);
            sequenceTold = false;
        }

        void replyCells(Packet packet) {
            for (int done = 0; done < packet.count; done += PACKET_CELLS) {
                int number = after(packet.number, done / PACKET_CELLS);
                fabric.carry(peer, REPLY, number).load(node, packet.place + done, packet.count - done);
            }
        }

        void replyOne(int number, int v) {
            Packet reply = fabric.carry(peer, REPLY, number);
            reply.count = 1;
            reply.cells[0] = v;
        }

        void acknowledge(int number) {
            fabric.carry(peer, ACK, number);
        }

        void refuse(int number, int reason) {
            fabric.carry(peer, NAK, number).mark = reason;
        }

        void completeAll(int begunStatus) {
            receives.completeAll(begun ? begunStatus : FLUSHED);
            begun = false;
        }
    }

    private static final class Pair {
        final Requester requester;
        final Responder responder;
        int state;

        Pair(Requester requester, Responder responder) {
            this.requester = requester;
            this.responder = responder;
        }

        void clear() {
            state = RESET;
            requester.clear();
            responder.clear();
        }

        void start(int first, int expected) {
            state = READY;
            requester.start(first);
            responder.expected = expected;
        }

        boolean takesRequests() {
            return state == READY && !requester.requests.isFull();
        }

        boolean takesReceives() {
            return state != FAILED && !responder.receives.isFull();
        }

        void takeIn(Packet packet) {
            if (state != READY) {
                return;
            }
            if (packet.kind <= ADD) {
                int receiveStatus = responder.takeIn(packet);
                if (receiveStatus != DONE) {
                    fail(FLUSHED, receiveStatus);
                }
            } else if (packet.kind == NAK) {
                int requestStatus = requester.takeNak(packet.number, packet.mark);
                if (requestStatus != DONE) {
                    fail(requestStatus, FLUSHED);
                }
            } else if (packet.kind == ACK) {
                requester.takeAck(packet.number);
            } else {
                requester.takeReply(packet);
            }
        }

        boolean failsByTime() {
            if (state != READY || !requester.waitsTooLong()) {
                return false;
            }
            fail(TIMED_OUT, FLUSHED);
            return true;
        }

        /** RESTING is left as it is: the document ends it by the clock, an answer or a reset alone. */
        void fail(int requestStatus, int receiveStatus) {
            state = FAILED;
            requester.requests.completeAll(requestStatus);
            responder.completeAll(receiveStatus);
        }

        int tell(int what) {
            if (what >= 1 && what <= 4 && state != READY) {
                return NONE;
            }
            switch (what) {
                case 0: return state;
                case 1: return requester.next;
                case 2: return requester.oldest;
                case 3: return requester.cursor;
                case 4: return responder.expected;
                case 5: return requester.requests.count;
                case 6: return responder.receives.count;
                case 7: return requester.resting ? 1 : 0;
                default: return NONE;
            }
        }
    }
}
