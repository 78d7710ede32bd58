/**
 * A small map kept by nodes that agree on a log, slot by slot, while sectors of their disks may be
 * torn, flipped or wiped: what is damaged is noticed, told from what was only cut off, got back from
 * others, or blocks just that slot, and no promise is given up.
 */
public final class ScarredLog {
    private static final int SLOTS = 8;
    /** Rows by slot number leave index 0 unused, so that a slot's number is its index. */
    private static final int SLOT_ROW = SLOTS + 1;
    private static final int KEYS = 4;
    private static final int MOST_REQUESTS = 30;
    private static final int BALLOT_STEP = 8;
    private static final int GREATEST_BALLOT = 60000;
    private static final int MOST_ARMED = 40;
    private static final int NOT_ARMED = -1;

    private static final int NOTHING = 0;
    private static final int NO_COMMAND = -1;
    private static final int FREE = -3;
    private static final int BLOCKED = -2;

    private static final int DONE = 1;
    private static final int DONE_AND_CHOSEN = 2;
    private static final int HEARD = 100;
    private static final int REFUSED = 0;
    private static final int NO_SUCH = -1;
    private static final int UNREACHABLE = -2;
    private static final int NO_SLOT_LEFT = -2;
    private static final int OUTBID = -3;
    private static final int WENT_DOWN = -4;
    private static final int SLOT_BLOCKED = -5;

    private final Clients clients;
    private final Node[] nodes;

    public ScarredLog(int n) {
        int count = n == 5 ? 5 : 3;
        clients = new Clients();
        nodes = new Node[count];
        for (int i = 0; i < count; i++) {
            nodes[i] = new Node(i, count, clients);
        }
    }

    public int ask(int key, int v) {
        if (!isKey(key) || clients.count == MOST_REQUESTS) {
            return NO_SUCH;
        }
        return clients.addRequest(key, v);
    }

    public int lead(int n) {
        if (!isNode(n)) {
            return NO_SUCH;
        }
        Node leader = nodes[n];
        if (!leader.canTakePart() || leader.hasDamagedSlot()) {
            return REFUSED;
        }
        int ballot = leader.nextBallot();
        if (ballot > GREATEST_BALLOT) {
            return REFUSED;
        }
        if (!leader.raisePromise(ballot)) {
            return WENT_DOWN;
        }
        leader.term.begin(ballot);
        return ballot;
    }

    public int promise(int n, int a) {
        if (!isNode(n) || !isNode(a)) {
            return NO_SUCH;
        }
        Term term = nodes[n].term;
        if (!term.isOn()) {
            return REFUSED;
        }
        Node asked = nodes[a];
        int hindrance = hindranceOf(asked, term.ballot);
        if (hindrance != 0) {
            return hindrance;
        }
        if (!asked.raisePromise(term.ballot)) {
            return WENT_DOWN;
        }
        term.addPromiser(a, asked.slots);
        return DONE;
    }

    public int route(int q, int n) {
        if (!clients.isRequest(q) || !isNode(n)) {
            return NO_SUCH;
        }
        Node node = nodes[n];
        if (node.ledger.isDone(q)) {
            clients.hear(q, node.ledger.answerTo(q));
            return HEARD;
        }
        if (!node.term.hasMajority()) {
            return REFUSED;
        }
        int s = node.term.slotFor(q);
        return s == 0 ? NO_SLOT_LEFT : s;
    }

    public int vote(int n, int a, int s) {
        if (!isNode(n) || !isNode(a) || !isSlot(s)) {
            return NO_SUCH;
        }
        Term term = nodes[n].term;
        if (!term.hasMajority()) {
            return REFUSED;
        }
        Node voter = nodes[a];
        int hindrance = hindranceOf(voter, term.ballot);
        if (hindrance != 0) {
            return hindrance;
        }
        if (!term.fix(s)) {
            return SLOT_BLOCKED;
        }
        // Kept aside, as a leader that goes down by its own vote loses its term.
        int ballot = term.ballot;
        int command = term.fixed[s];
        if (!voter.raisePromise(ballot) || !voter.writeVote(s, command, ballot)) {
            return WENT_DOWN;
        }
        boolean isMajority = term.addVoter(s, a);
        return isMajority && nodes[n].ledger.learn(s, command) ? DONE_AND_CHOSEN : DONE;
    }

    public int tell(int n, int m) {
        if (!isNode(n) || !isNode(m) || n == m) {
            return NO_SUCH;
        }
        if (!nodes[n].isUp || !nodes[m].isUp) {
            return UNREACHABLE;
        }
        return nodes[m].ledger.learnAll(nodes[n].ledger);
    }

    public int mend(int n, int a, int s) {
        if (!isNode(n) || !isNode(a) || !isSlot(s) || n == a) {
            return NO_SUCH;
        }
        Node hurt = nodes[n];
        Node helper = nodes[a];
        if (!hurt.canTakePart() || !helper.canTakePart()) {
            return REFUSED;
        }
        int lost = hurt.slots[s];
        int kept = helper.slots[s];
        if (!SlotState.isDamaged(lost) || !SlotState.isWhole(kept)
                || SlotState.ballotOf(lost) != SlotState.ballotOf(kept)) {
            return REFUSED;
        }
        boolean written = hurt.writeVote(s, SlotState.commandOf(kept), SlotState.ballotOf(kept));
        return written ? DONE : WENT_DOWN;
    }

    public boolean crash(int n) {
        if (!isNode(n) || !nodes[n].isUp) {
            return false;
        }
        nodes[n].goDown();
        return true;
    }

    public boolean restart(int n) {
        if (!isNode(n) || nodes[n].isUp) {
            return false;
        }
        nodes[n].comeUp();
        return true;
    }

    public boolean arm(int n, int k) {
        if (!isNode(n) || !nodes[n].isUp || k < 0 || k > MOST_ARMED) {
            return false;
        }
        nodes[n].armed = k;
        return true;
    }

    public boolean flip(int n, int sector, int bit) {
        if (!isSoundSector(n, sector) || bit < 0 || bit >= 8 * Disk.SECTOR_BYTES) {
            return false;
        }
        nodes[n].disk.flipBit(sector, bit);
        return true;
    }

    public boolean wipe(int n, int sector) {
        if (!isSoundSector(n, sector)) {
            return false;
        }
        nodes[n].disk.clearSector(sector);
        return true;
    }

    public int look(int n, int what) {
        if (!isNode(n)) {
            return NO_SUCH;
        }
        Node node = nodes[n];
        switch (what) {
            case 0:
                return node.isUp ? 1 : 0;
            case 1:
                return node.isMute ? 1 : 0;
            case 2:
                return node.promised;
            case 3:
                return node.term.ballot;
            case 4:
                return node.term.promisers;
            case 5:
                return node.ledger.slotsDone;
            case 6:
                return node.armed;
            default:
                return NO_SUCH;
        }
    }

    public int slot(int n, int s) {
        if (!isNode(n) || !isSlot(s) || !nodes[n].isUp) {
            return NO_SUCH;
        }
        return nodes[n].slots[s];
    }

    public int plan(int n, int s) {
        if (!isNode(n) || !isSlot(s) || !nodes[n].term.hasMajority()) {
            return NO_SUCH;
        }
        return nodes[n].term.planOf(s);
    }

    public int chosen(int n, int s) {
        if (!isNode(n) || !isSlot(s)) {
            return NO_SUCH;
        }
        return nodes[n].ledger.commands[s];
    }

    public int value(int n, int key) {
        if (!isNode(n) || !isKey(key)) {
            return 0;
        }
        return nodes[n].ledger.numbers[key];
    }

    public int octet(int n, int i) {
        if (!isNode(n) || i < 0 || i >= Disk.BYTES) {
            return NO_SUCH;
        }
        return nodes[n].disk.bytes[i];
    }

    public int reply(int q, boolean count) {
        if (!clients.isRequest(q)) {
            return 0;
        }
        return count ? clients.timesHeard[q] : clients.latestAnswers[q];
    }

    private boolean isNode(int n) {
        return n >= 0 && n < nodes.length;
    }

    private static boolean isSlot(int s) {
        return s >= 1 && s <= SLOTS;
    }

    private static boolean isKey(int key) {
        return key >= 0 && key < KEYS;
    }

    private boolean isSoundSector(int n, int sector) {
        return isNode(n) && sector >= 0 && sector < Disk.SECTORS && !nodes[n].disk.isWrong(sector);
    }

    /** Why a node can't answer for a ballot, or 0 if it can. */
    private static int hindranceOf(Node asked, int ballot) {
        if (!asked.canTakePart()) {
            return UNREACHABLE;
        }
        return asked.promised > ballot ? OUTBID : 0;
    }

    /** The requests, and what the clients heard of them. */
    private static final class Clients {
        private final int[] keys = new int[MOST_REQUESTS + 1];
        private final int[] numbers = new int[MOST_REQUESTS + 1];
        private final int[] latestAnswers = new int[MOST_REQUESTS + 1];
        private final int[] timesHeard = new int[MOST_REQUESTS + 1];
        private int count;

        int addRequest(int key, int number) {
            count++;
            keys[count] = key;
            numbers[count] = number;
            return count;
        }

        boolean isRequest(int q) {
            return q >= 1 && q <= count;
        }

        void hear(int q, int answer) {
            latestAnswers[q] = answer;
            timesHeard[q]++;
        }
    }

    /** The bytes of one disk: each sector holds its content and then the same content xor 255. */
    private static final class Disk {
        private static final int SECTORS = 18;
        private static final int SECTOR_BYTES = 8;
        private static final int CONTENT_BYTES = 4;
        private static final int BYTES = SECTORS * SECTOR_BYTES;
        private static final int FLIPPED = 255;

        private final int[] bytes = new int[BYTES];

        Disk() {
            for (int sector = 0; sector < SECTORS; sector++) {
                sealSector(sector);
            }
        }

        boolean isWrong(int sector) {
            int start = sector * SECTOR_BYTES;
            for (int i = start; i < start + CONTENT_BYTES; i++) {
                if (bytes[i + CONTENT_BYTES] != (bytes[i] ^ FLIPPED)) {
                    return true;
                }
            }
            return false;
        }

        int commandIn(int sector) {
            return bytes[sector * SECTOR_BYTES + 1];
        }

        int ballotIn(int sector) {
            int start = sector * SECTOR_BYTES;
            return 256 * bytes[start + 2] + bytes[start + 3];
        }

        /** Changes the first half alone: a sector is written whole only when it is sealed too. */
        void putContent(int sector, int first, int second, int ballot) {
            int start = sector * SECTOR_BYTES;
            bytes[start] = first;
            bytes[start + 1] = second;
            bytes[start + 2] = ballot / 256;
            bytes[start + 3] = ballot % 256;
        }

        void sealSector(int sector) {
            int start = sector * SECTOR_BYTES;
            for (int i = start; i < start + CONTENT_BYTES; i++) {
                bytes[i + CONTENT_BYTES] = bytes[i] ^ FLIPPED;
            }
        }

        void flipBit(int sector, int bit) {
            bytes[sector * SECTOR_BYTES + bit / 8] ^= 1 << (bit % 8);
        }

        void clearSector(int sector) {
            int start = sector * SECTOR_BYTES;
            for (int i = start; i < start + SECTOR_BYTES; i++) {
                bytes[i] = 0;
            }
        }
    }

    /** A slot's state as one number, the same that the face tells of it. */
    private static final class SlotState {
        private static final int EMPTY = 0;
        private static final int DAMAGED_UNKNOWN = -1000000;
        private static final int UNKNOWN_BALLOT = 1000000;
        private static final int BALLOT_UNIT = 64;

        static int wholeWith(int ballot, int command) {
            return BALLOT_UNIT * ballot + command;
        }

        static int damagedWith(int ballot) {
            return -2 - ballot;
        }

        static boolean isWhole(int state) {
            return state > EMPTY;
        }

        static boolean isDamaged(int state) {
            return state < EMPTY;
        }

        /** 0 if it is empty; an unknown ballot is above all others, as it may have been any. */
        static int ballotOf(int state) {
            if (state == DAMAGED_UNKNOWN) {
                return UNKNOWN_BALLOT;
            }
            return state < EMPTY ? -2 - state : state / BALLOT_UNIT;
        }

        /** Of a whole slot. */
        static int commandOf(int state) {
            return state % BALLOT_UNIT;
        }
    }

    /** One node: its disk, and all that it knows as long as it is up. */
    private static final class Node {
        private final int id;
        private final Disk disk = new Disk();
        private final int[] slots = new int[SLOT_ROW];
        private final Term term;
        private final Ledger ledger;
        private boolean isUp = true;
        private boolean isMute;
        private int promised;
        private int armed = NOT_ARMED;

        Node(int id, int nodeCount, Clients clients) {
            this.id = id;
            term = new Term(nodeCount);
            ledger = new Ledger(clients);
        }

        boolean canTakePart() {
            return isUp && !isMute;
        }

        boolean hasDamagedSlot() {
            for (int s = 1; s <= SLOTS; s++) {
                if (SlotState.isDamaged(slots[s])) {
                    return true;
                }
            }
            return false;
        }

        /** The least ballot of this node above its promised one. */
        int nextBallot() {
            int ballot = promised - promised % BALLOT_STEP + id;
            return ballot > promised && ballot >= BALLOT_STEP ? ballot : ballot + BALLOT_STEP;
        }

        /** Promises the ballot if what is promised is less; false if the node goes down by that. */
        boolean raisePromise(int ballot) {
            if (promised >= ballot) {
                return true;
            }
            if (!writeSector(0, 0, 0, ballot) || !writeSector(1, 0, 0, ballot)) {
                return false;
            }
            promised = ballot;
            return true;
        }

        /** False if the node goes down by that. */
        boolean writeVote(int s, int command, int ballot) {
            if (!writeSector(2 * s, s, command, ballot) || !writeSector(2 * s + 1, s, 0, ballot)) {
                return false;
            }
            slots[s] = SlotState.wholeWith(ballot, command);
            return true;
        }

        private boolean writeSector(int sector, int first, int second, int ballot) {
            disk.putContent(sector, first, second, ballot);
            if (armed == 0) {
                goDown();
                return false;
            }
            disk.sealSector(sector);
            if (armed != NOT_ARMED) {
                armed--;
            }
            return true;
        }

        /** Forgets all but the disk, so that a node that is down has nothing to tell. */
        void goDown() {
            isUp = false;
            isMute = false;
            promised = 0;
            armed = NOT_ARMED;
            term.end();
            ledger.forget();
            for (int s = 1; s <= SLOTS; s++) {
                slots[s] = SlotState.EMPTY;
            }
        }

        void comeUp() {
            isUp = true;
            isMute = disk.isWrong(0) && disk.isWrong(1);
            promised = Math.max(promiseFound(0), promiseFound(1));
            for (int s = 1; s <= SLOTS; s++) {
                slots[s] = slotFound(2 * s, 2 * s + 1);
            }
        }

        private int promiseFound(int sector) {
            return disk.isWrong(sector) ? 0 : disk.ballotIn(sector);
        }

        private int slotFound(int entry, int marker) {
            if (!disk.isWrong(entry)) {
                int ballot = disk.ballotIn(entry);
                return ballot == 0 ? SlotState.EMPTY : SlotState.wholeWith(ballot, disk.commandIn(entry));
            }
            if (disk.isWrong(marker)) {
                return SlotState.DAMAGED_UNKNOWN;
            }
            // A blank marker behind a wrong entry: the slot's first vote was cut off, and never given.
            int ballot = disk.ballotIn(marker);
            return ballot == 0 ? SlotState.EMPTY : SlotState.damagedWith(ballot);
        }
    }

    /** A node's term, if it has one, made once and begun anew. */
    private static final class Term {
        private final int nodeCount;
        /** What each node told of every slot, a row of slots a node. */
        private final int[] told;
        private final int[] assigned = new int[SLOT_ROW];
        private final int[] fixed = new int[SLOT_ROW];
        private final int[] voters = new int[SLOT_ROW];
        private int ballot;
        private int promisers;

        Term(int nodeCount) {
            this.nodeCount = nodeCount;
            told = new int[nodeCount * SLOT_ROW];
        }

        void begin(int newBallot) {
            ballot = newBallot;
            promisers = 0;
            for (int s = 1; s <= SLOTS; s++) {
                assigned[s] = NOTHING;
                fixed[s] = NO_COMMAND;
                voters[s] = 0;
            }
        }

        void end() {
            ballot = 0;
            promisers = 0;
        }

        boolean isOn() {
            return ballot != 0;
        }

        boolean hasMajority() {
            return isMajority(Integer.bitCount(promisers));
        }

        private boolean isMajority(int count) {
            return 2 * count > nodeCount;
        }

        void addPromiser(int a, int[] slots) {
            promisers |= 1 << a;
            for (int s = 1; s <= SLOTS; s++) {
                told[a * SLOT_ROW + s] = slots[s];
            }
        }

        /** The command, FREE or BLOCKED. */
        int planOf(int s) {
            int best = SlotState.EMPTY;
            int sound = 0;
            int greatestLost = 0;
            for (int a = 0; a < nodeCount; a++) {
                if ((promisers >> a & 1) == 0) {
                    continue;
                }
                int state = told[a * SLOT_ROW + s];
                int itsBallot = SlotState.ballotOf(state);
                if (SlotState.isDamaged(state)) {
                    greatestLost = Math.max(greatestLost, itsBallot);
                } else {
                    sound++;
                    best = itsBallot > SlotState.ballotOf(best) ? state : best;
                }
            }
            if (!isMajority(sound) && greatestLost > SlotState.ballotOf(best)) {
                return BLOCKED;
            }
            return SlotState.isWhole(best) ? SlotState.commandOf(best) : FREE;
        }

        /** The slot that has been assigned to a request or is now, or 0 if there is none for it. */
        int slotFor(int q) {
            for (int s = 1; s <= SLOTS; s++) {
                if (assigned[s] == q) {
                    return s;
                }
            }
            int s = firstUnusedSlot();
            if (s != 0) {
                assigned[s] = q;
            }
            return s;
        }

        /** The lowest slot that is unused with all behind it, so it is sought from the end. */
        private int firstUnusedSlot() {
            int lowest = 0;
            for (int s = SLOTS; s >= 1 && isUnused(s); s--) {
                lowest = s;
            }
            return lowest;
        }

        private boolean isUnused(int s) {
            return assigned[s] == NOTHING && fixed[s] == NO_COMMAND && planOf(s) == FREE;
        }

        /** Sees to it that a slot has a fixed command; false if it is blocked and has none. */
        boolean fix(int s) {
            if (fixed[s] != NO_COMMAND) {
                return true;
            }
            int command = planOf(s);
            if (command == BLOCKED) {
                return false;
            }
            fixed[s] = command == FREE ? assigned[s] : command;
            return true;
        }

        /** Whether the voters of the slot are a majority with this one. */
        boolean addVoter(int s, int a) {
            voters[s] |= 1 << a;
            return isMajority(Integer.bitCount(voters[s]));
        }
    }

    /** The commands chosen at a node, and the map that comes of them. */
    private static final class Ledger {
        private final Clients clients;
        private final int[] commands = new int[SLOT_ROW];
        private final int[] numbers = new int[KEYS];
        private final int[] answers = new int[MOST_REQUESTS + 1];
        private final boolean[] done = new boolean[MOST_REQUESTS + 1];
        private int slotsDone;

        Ledger(Clients clients) {
            this.clients = clients;
            forget();
        }

        void forget() {
            for (int s = 0; s <= SLOTS; s++) {
                commands[s] = NO_COMMAND;
            }
            for (int key = 0; key < KEYS; key++) {
                numbers[key] = 0;
            }
            for (int q = 0; q <= MOST_REQUESTS; q++) {
                answers[q] = 0;
                done[q] = false;
            }
            slotsDone = 0;
        }

        boolean isDone(int q) {
            return done[q];
        }

        int answerTo(int q) {
            return answers[q];
        }

        /** False if a command was chosen for the slot before. */
        boolean learn(int s, int command) {
            if (commands[s] != NO_COMMAND) {
                return false;
            }
            commands[s] = command;
            doWhatIsNext();
            return true;
        }

        /** How many commands of the other ledger were new here. */
        int learnAll(Ledger other) {
            int learnt = 0;
            for (int s = 1; s <= SLOTS; s++) {
                int command = other.commands[s];
                if (command != NO_COMMAND && learn(s, command)) {
                    learnt++;
                }
            }
            return learnt;
        }

        private void doWhatIsNext() {
            for (int s = slotsDone + 1; s <= SLOTS && commands[s] != NO_COMMAND; s++) {
                perform(commands[s]);
                slotsDone = s;
            }
        }

        private void perform(int command) {
            if (!clients.isRequest(command) || done[command]) {
                return;
            }
            int key = clients.keys[command];
            answers[command] = numbers[key];
            numbers[key] = clients.numbers[command];
            done[command] = true;
        }
    }
}
