/**
 * A sensor node whose power may fail between any two acts, and beside it the plain machine that
 * knows no power. All rows are made once, with the object, and used again by every install().
 */
public final class SensorNode {
    // Where the guest sees its part of the store, and how much there can be of everything.
    private static final int STORE_PLACE = 1 << 30;
    private static final int SIGN = 1 << 31;
    private static final int MOST_RAM = 4096;
    private static final int MOST_STORE = 8192;
    private static final int LEAST_ENTRIES = 8;
    private static final int MOST_ENTRIES = 1024;
    private static final int LEAST_INTERVAL = 16;
    private static final int MOST_INTERVAL = 65536;
    private static final int MOST_SAMPLES = 1000;
    private static final int MOST_STEPS = 20000;
    private static final int KEPT_FRAMES = 400;
    private static final int MOST_SENT_BYTES = 64;
    private static final int TRAY_BYTES = 8200;
    private static final int FEED_BYTES = 20;
    private static final int FED_IN_ALL = 65536;

    // Words of the store.
    private static final int FLIP = 0;
    private static final int LOG = 1;
    private static final int OUT = 2;
    private static final int FIRST_BUFFER = 3;
    private static final int HALF = 65535;

    // What a guest owns beside its memory, in the order of a buffer.
    private static final int PC = 32;
    private static final int INDEX = 33;
    private static final int SENT = 34;
    private static final int COUNT = 35;
    private static final int OWN = 36;

    // What state() answers; a guest's instruction at hand ends it with one of the last five, or goes on.
    private static final int GOES_ON = 0;
    private static final int NOT_INSTALLED = 0;
    private static final int NO_POWER = 1;
    private static final int BOOTS = 2;
    private static final int READY = 3;
    private static final int IN_CHECKPOINT = 4;
    private static final int IN_INSTRUCTION = 5;
    private static final int HALTED = 6;
    private static final int TRAP_WORD = 11;
    private static final int TRAP_UNEVEN = 12;
    private static final int TRAP_OUTSIDE = 13;
    private static final int TRAP_LONG = 14;

    // What an instruction does beside setting a register and PC.
    private static final int NOTHING_ELSE = 0;
    private static final int SAMPLES = 1;
    private static final int SENDS = 2;
    private static final int STORES_IN_RAM = 3;
    private static final int STORES_IN_STORE = 4;

    // What count() tells.
    private static final int ACTS = 0;
    private static final int WRITTEN = 1;
    private static final int DONE = 2;
    private static final int UNDONE = 3;
    private static final int CHECKPOINTS = 4;
    private static final int CUTS = 5;
    private static final int ROLLED_BACK = 6;
    private static final int KINDS_OF_COUNTS = 7;

    private final Tray tray;
    private final Plan plan;
    private final Node node;
    private final PlainMachine plainMachine;

    public SensorNode() {
        Plan told = new Plan();
        tray = new Tray();
        plan = told;
        node = new Node(told);
        plainMachine = new PlainMachine(told);
    }

    public int feed(int a, int b, int c, int d, int e) {
        if (!tray.hasRoom()) {
            return -1;
        }
        tray.add(a);
        tray.add(b);
        tray.add(c);
        tray.add(d);
        tray.add(e);
        return tray.size();
    }

    public boolean end(int n) {
        return tray.shorten(n);
    }

    public int install(int r, int g, int l, int k, int pc) {
        int told = tray.size();
        tray.shorten(0);
        if (!Plan.allows(r, g, l, k)) {
            return -1;
        }
        if (told > g) {
            return -2;
        }
        plan.set(r, g, l, k, pc);
        plan.fill(tray, told);
        node.makeNew();
        plainMachine.forget();
        return 0;
    }

    public int sample(int v) {
        return node.hadPower() ? -1 : plan.addSample(v);
    }

    public boolean on() {
        return node.givePower();
    }

    public boolean cut() {
        return node.cutPower();
    }

    public int go(int n) {
        return n < 0 || n > MOST_STEPS ? -1 : node.act(n);
    }

    public int state() {
        return node.condition();
    }

    public int register(int i) {
        return node.owned(i);
    }

    public int ram(int a) {
        return node.ramByte(a);
    }

    public int words() {
        return node.size();
    }

    public int word(int w) {
        return node.stored(w);
    }

    public int frames() {
        return node.radio().total();
    }

    public int frame(int i, int what) {
        switch (what) {
            case 0:
                return node.radio().number(i);
            case 1:
                return node.radio().length(i);
            case 2:
                return node.radio().cutsBefore(i);
            default:
                return -1;
        }
    }

    public int heard(int i, int k) {
        return node.radio().byteOf(i, k);
    }

    public int count(int what) {
        return node.counted(what);
    }

    public int plain(int n) {
        return !plan.installed || n < 0 || n > MOST_STEPS ? -1 : plainMachine.run(n);
    }

    public int plainly(int i) {
        return plainMachine.owned(i);
    }

    public int plainByte(int a) {
        return plainMachine.memoryByte(a);
    }

    public int plainFrame(int i) {
        return plainMachine.radio().length(i);
    }

    public int plainHeard(int i, int k) {
        return plainMachine.radio().byteOf(i, k);
    }

    public int strays() {
        return node.strayed();
    }

    /** A row of bytes, four to a word, the lowest first. */
    private static final class Bytes {
        private final int[] packed;

        Bytes(int most) {
            packed = new int[most > 0 ? (most + 3) / 4 : 0];
        }

        int get(int i) {
            int w = i >> 2;
            return w < 0 || w >= packed.length ? 0 : packed[w] >>> 8 * (i & 3) & 255;
        }

        void put(int i, int b) {
            int w = i >> 2;
            if (w >= 0 && w < packed.length) {
                int shift = 8 * (i & 3);
                packed[w] = packed[w] & ~(255 << shift) | (b & 255) << shift;
            }
        }
    }

    /** The bytes that wait for the next install(). */
    private static final class Tray {
        private final Bytes bytes = new Bytes(TRAY_BYTES);
        private int size;
        private int fed;

        boolean hasRoom() {
            return size + FEED_BYTES <= TRAY_BYTES && fed + FEED_BYTES <= FED_IN_ALL;
        }

        int size() {
            return size;
        }

        void add(int fourBytes) {
            for (int shift = 24; shift >= 0; shift -= 8) {
                bytes.put(size, fourBytes >>> shift);
                size++;
            }
            fed += 4;
        }

        boolean shorten(int n) {
            if (n < 0 || n > size) {
                return false;
            }
            size = n;
            return true;
        }

        int get(int i) {
            return bytes.get(i);
        }
    }

    /** What install() and sample() told: the node and the plain machine both begin from it. */
    private static final class Plan {
        private final int[] image = new int[MOST_STORE / 4];
        private final int[] samples = new int[MOST_SAMPLES];
        private int samplesTold;
        private boolean installed;
        private int ramBytes;
        private int storeBytes;
        private int entries;
        private int interval;
        private int start;

        static boolean allows(int r, int g, int l, int k) {
            return r >= 4 && r <= MOST_RAM && (r & 3) == 0
                && g >= 4 && g <= MOST_STORE && (g & 3) == 0
                && l >= LEAST_ENTRIES && l <= MOST_ENTRIES
                && k >= LEAST_INTERVAL && k <= MOST_INTERVAL;
        }

        void set(int r, int g, int l, int k, int pc) {
            installed = true;
            ramBytes = r;
            storeBytes = g;
            entries = l;
            interval = k;
            start = pc;
            samplesTold = 0;
        }

        void fill(Tray tray, int told) {
            for (int w = 0; w < image.length; w++) {
                image[w] = 0;
            }
            for (int i = 0; i < told && i >> 2 < image.length; i++) {
                image[i >> 2] |= tray.get(i) << 8 * (i & 3);
            }
        }

        void copyImage(int[] store, int from) {
            for (int w = 0; w < image.length && w < storeBytes / 4; w++) {
                int to = from + w;
                if (to >= 0 && to < store.length) {
                    store[to] = image[w];
                }
            }
        }

        int addSample(int v) {
            if (!installed || samplesTold < 0 || samplesTold >= samples.length) {
                return -1;
            }
            samples[samplesTold] = v;
            samplesTold++;
            return samplesTold;
        }

        int sampleAt(int i) {
            return i < 0 || i >= samplesTold || i >= samples.length ? 0 : samples[i];
        }

        int bufferWords() {
            return OWN + ramBytes / 4;
        }
    }

    /** Frames that were sent out: all are counted, the first ones kept. */
    private static final class Radio {
        private final int[] numbers = new int[KEPT_FRAMES];
        private final int[] lengths = new int[KEPT_FRAMES];
        private final int[] cuts = new int[KEPT_FRAMES];
        private final Bytes bytes = new Bytes(KEPT_FRAMES * MOST_SENT_BYTES);
        private int total;
        private int newest;

        void clear() {
            total = 0;
            newest = 0;
        }

        void send(Guest guest, int number, int cutsBefore) {
            int i = total;
            total++;
            newest = number;
            if (i < 0 || i >= KEPT_FRAMES) {
                return;
            }
            numbers[i] = number;
            cuts[i] = cutsBefore;
            lengths[i] = guest.sendLength();
            for (int k = 0; k < guest.sendLength() && k < MOST_SENT_BYTES; k++) {
                bytes.put(i * MOST_SENT_BYTES + k, guest.byteAt(guest.sendPlace() + k));
            }
        }

        private boolean keeps(int i) {
            return i >= 0 && i < total && i < KEPT_FRAMES;
        }

        int total() {
            return total;
        }

        /** The number of the frame that was sent out last, kept or not. */
        int newest() {
            return newest;
        }

        int number(int i) {
            return keeps(i) ? numbers[i] : -1;
        }

        int length(int i) {
            return keeps(i) ? lengths[i] : -1;
        }

        int cutsBefore(int i) {
            return keeps(i) ? cuts[i] : -1;
        }

        int byteOf(int i, int k) {
            return k >= 0 && k < length(i) ? bytes.get(i * MOST_SENT_BYTES + k) : -1;
        }
    }

    /**
     * The guest: look() reads the instruction at hand and changes nothing that the guest has,
     * finish() does it. The node has acts of its own between the two.
     */
    private static final class Guest {
        private final Plan plan;
        private final int[] own = new int[OWN];
        private final int[] memory = new int[MOST_RAM / 4];
        private final int[] store;
        private int storeStart;

        // The instruction at hand.
        private int kind;
        private int target;
        private int value;
        private int next;
        private int address;

        Guest(Plan plan, int[] store) {
            this.plan = plan;
            this.store = store;
        }

        void setStoreStart(int w) {
            storeStart = w;
        }

        int owned(int i) {
            return i >= 0 && i < OWN ? own[i] : 0;
        }

        /** Word i of a buffer: what the guest owns, then its RAM. */
        int saved(int i) {
            int w = i - OWN;
            return w >= 0 && w < memory.length ? memory[w] : owned(i);
        }

        void restore(int i, int word) {
            int w = i - OWN;
            if (i >= 0 && i < OWN) {
                own[i] = word;
            } else if (w >= 0 && w < memory.length) {
                memory[w] = word;
            }
        }

        /** How the instruction at hand ends the guest, or GOES_ON. */
        int look() {
            int pc = own[PC];
            kind = NOTHING_ELSE;
            target = 0;
            value = 0;
            next = pc + 4;
            int trap = trapOfPlace(pc, 4);
            if (trap != GOES_ON) {
                return trap;
            }
            int word = wordAt(pc);
            int a = own[word >>> 15 & 31];
            int b = own[word >>> 20 & 31];
            int f = word >>> 12 & 7;
            int signed = word >> 20;
            target = word >>> 7 & 31;
            switch (word & 127) {
                case 55:
                    return give(word & -4096);
                case 23:
                    return give(pc + (word & -4096));
                case 111:
                    return jump(pc + jumpOffset(word), pc + 4);
                case 103:
                    return f == 0 ? jump(a + signed & -2, pc + 4) : TRAP_WORD;
                case 99:
                    target = 0;
                    return branch(f, a, b, pc + branchOffset(word));
                case 3:
                    return load(f, a + signed);
                case 35:
                    target = 0;
                    return storeAt(f, a + (word >> 25 << 5 | word >>> 7 & 31), b);
                case 19:
                    return withNumber(f, word >>> 25, a, signed);
                case 51:
                    return withRegister(f, word >>> 25, a, b);
                case 15:
                    target = 0;
                    return f == 0 ? GOES_ON : TRAP_WORD;
                case 115:
                    return word == 115 ? call() : TRAP_WORD;
                default:
                    return TRAP_WORD;
            }
        }

        private static int jumpOffset(int word) {
            return word >> 31 << 20 | word & 0xFF000 | word >>> 9 & 0x800 | word >>> 20 & 0x7FE;
        }

        private static int branchOffset(int word) {
            return word >> 31 << 12 | word << 4 & 0x800 | word >>> 20 & 0x7E0 | word >>> 7 & 0x1E;
        }

        private static boolean below(int a, int b) {
            return (a ^ SIGN) < (b ^ SIGN);
        }

        private int give(int v) {
            value = v;
            return GOES_ON;
        }

        private int jump(int place, int back) {
            if ((place & 3) != 0) {
                return TRAP_UNEVEN;
            }
            next = place;
            return give(back);
        }

        private int branch(int f, int a, int b, int place) {
            boolean related;
            switch (f & 6) {
                case 0:
                    related = a == b;
                    break;
                case 4:
                    related = a < b;
                    break;
                case 6:
                    related = below(a, b);
                    break;
                default:
                    return TRAP_WORD;
            }
            boolean turned = (f & 1) != 0;
            return related != turned ? jump(place, 0) : GOES_ON;
        }

        private int load(int f, int at) {
            if (f == 3 || f > 5) {
                return TRAP_WORD;
            }
            int trap = trapOfPlace(at, 1 << (f & 3));
            if (trap != GOES_ON) {
                return trap;
            }
            int word = wordAt(at) >>> 8 * (at & 3);
            switch (f) {
                case 0:
                    return give(word << 24 >> 24);
                case 1:
                    return give(word << 16 >> 16);
                case 4:
                    return give(word & 255);
                case 5:
                    return give(word & HALF);
                default:
                    return give(word);
            }
        }

        private int storeAt(int f, int at, int b) {
            if (f > 2) {
                return TRAP_WORD;
            }
            int trap = trapOfPlace(at, 1 << f);
            if (trap != GOES_ON) {
                return trap;
            }
            int mask = f == 0 ? 255 : f == 1 ? HALF : -1;
            int shift = 8 * (at & 3);
            kind = inRam(at) ? STORES_IN_RAM : STORES_IN_STORE;
            address = at;
            return give(wordAt(at) & ~(mask << shift) | (b & mask) << shift);
        }

        private int trapOfPlace(int at, int size) {
            if ((at & size - 1) != 0) {
                return TRAP_UNEVEN;
            }
            return holds(at, size) ? GOES_ON : TRAP_OUTSIDE;
        }

        private int withNumber(int f, int h, int a, int number) {
            if (f == 1 && h != 0) {
                return TRAP_WORD;
            }
            if (f == 5 && h != 0) {
                return h == 32 ? give(a >> (number & 31)) : TRAP_WORD;
            }
            return give(reckon(f, a, number));
        }

        private int withRegister(int f, int h, int a, int b) {
            if (h == 0) {
                return give(reckon(f, a, b));
            }
            if (h == 32 && f == 0) {
                return give(a - b);
            }
            return h == 32 && f == 5 ? give(a >> (b & 31)) : TRAP_WORD;
        }

        private static int reckon(int f, int a, int b) {
            switch (f) {
                case 0:
                    return a + b;
                case 1:
                    return a << (b & 31);
                case 2:
                    return a < b ? 1 : 0;
                case 3:
                    return below(a, b) ? 1 : 0;
                case 4:
                    return a ^ b;
                case 5:
                    return a >>> (b & 31);
                case 6:
                    return a | b;
                default:
                    return a & b;
            }
        }

        private int call() {
            target = 10;
            switch (own[17]) {
                case 1:
                    kind = SAMPLES;
                    return give(plan.sampleAt(own[INDEX]));
                case 2:
                    return callToSend();
                case 3:
                    return HALTED;
                default:
                    return TRAP_WORD;
            }
        }

        private int callToSend() {
            int length = own[11];
            if (below(MOST_SENT_BYTES, length)) {
                return TRAP_LONG;
            }
            if (length != 0 && !holds(own[10], length)) {
                return TRAP_OUTSIDE;
            }
            kind = SENDS;
            return give(own[SENT] + 1);
        }

        void finish() {
            if (kind == STORES_IN_RAM || kind == STORES_IN_STORE) {
                putWord(address, value);
            } else if (target > 0 && target < PC) {
                own[target] = value;
            }
            if (kind == SAMPLES) {
                own[INDEX]++;
            }
            if (kind == SENDS) {
                own[SENT]++;
            }
            own[PC] = next;
            own[COUNT]++;
        }

        int kind() {
            return kind;
        }

        /** Which of the guest's words in the store the instruction at hand writes. */
        int cellWritten() {
            return address - STORE_PLACE >> 2;
        }

        int sendLength() {
            return own[11];
        }

        int sendPlace() {
            return own[10];
        }

        boolean inRam(int at) {
            return at >= 0 && at < plan.ramBytes && at >> 2 < memory.length;
        }

        boolean holds(int at, int n) {
            int offset = at - STORE_PLACE;
            return at >= 0 && at <= plan.ramBytes - n || offset >= 0 && offset <= plan.storeBytes - n;
        }

        int byteAt(int at) {
            return wordAt(at) >>> 8 * (at & 3) & 255;
        }

        private int wordAt(int at) {
            if (inRam(at)) {
                return memory[at >> 2];
            }
            int w = storeStart + (at - STORE_PLACE >> 2);
            return w >= 0 && w < store.length ? store[w] : 0;
        }

        private void putWord(int at, int word) {
            int w = storeStart + (at - STORE_PLACE >> 2);
            if (inRam(at)) {
                memory[at >> 2] = word;
            } else if (w >= 0 && w < store.length) {
                store[w] = word;
            }
        }
    }

    /** The node: its store, and what it is doing while it has power. */
    private static final class Node {
        private static final int MOST_WORDS =
            FIRST_BUFFER + 2 * (OWN + MOST_RAM / 4) + 2 * MOST_ENTRIES + MOST_STORE / 4;

        private final Plan plan;
        private final int[] store;
        // One for each of the guest's words: those with an entry that counts bear the present mark, so
        // that no log is searched; when entries cease to count the mark changes, and all others are old.
        private final int[] marks = new int[MOST_STORE / 4];
        private final int[] counts = new int[KINDS_OF_COUNTS];
        private final Radio radio = new Radio();
        private final Guest guest;
        private int mark;
        private int state;
        private int step;
        private int since;
        private int size;
        private int logStart;
        private int guestStart;
        private int strays;
        private boolean hadPower;

        Node(Plan plan) {
            this.plan = plan;
            int[] words = new int[MOST_WORDS];
            store = words;
            guest = new Guest(plan, words);
            state = NOT_INSTALLED;
        }

        void makeNew() {
            logStart = FIRST_BUFFER + 2 * plan.bufferWords();
            guestStart = logStart + 2 * plan.entries;
            size = guestStart + plan.storeBytes / 4;
            for (int w = 0; w < store.length; w++) {
                store[w] = 0;
            }
            store[FIRST_BUFFER + PC] = plan.start;
            plan.copyImage(store, guestStart);
            guest.setStoreStart(guestStart);
            for (int i = 0; i < counts.length; i++) {
                counts[i] = 0;
            }
            radio.clear();
            strays = 0;
            hadPower = false;
            state = NO_POWER;
        }

        boolean hadPower() {
            return hadPower;
        }

        private boolean hasPower() {
            return state > NO_POWER;
        }

        boolean givePower() {
            if (state != NO_POWER) {
                return false;
            }
            hadPower = true;
            since = 0;
            step = 0;
            mark++;
            int from = bufferStart(generation());
            for (int i = 0; i < plan.bufferWords(); i++) {
                guest.restore(i, stored(from + i));
            }
            meetLog();
            return true;
        }

        private void meetLog() {
            int logged = store[LOG] >>> 16;
            if (logged != generation() && logged != (generation() - 1 & HALF)) {
                strays++;
            }
            state = logged != generation() || entriesThatCount() > 0 ? BOOTS : READY;
        }

        boolean cutPower() {
            if (!hasPower()) {
                return false;
            }
            counts[CUTS]++;
            counts[UNDONE] += since;
            state = NO_POWER;
            return true;
        }

        int act(int most) {
            int done = 0;
            while (done < most && hasPower() && state < HALTED) {
                if (state == READY) {
                    choose();
                }
                if (state == BOOTS) {
                    boot();
                } else if (state == IN_CHECKPOINT) {
                    checkpoint();
                } else if (state == IN_INSTRUCTION) {
                    instruct();
                }
                done++;
            }
            counts[ACTS] += done;
            return done;
        }

        /** What the next act belongs to; where the guest ends, this is the act. */
        private void choose() {
            step = 0;
            // Not even a trap or HALT comes before the checkpoint that is due.
            if (since == plan.interval) {
                state = IN_CHECKPOINT;
                return;
            }
            int ending = guest.look();
            if (ending != GOES_ON) {
                state = ending;
            } else {
                state = needsCheckpoint() ? IN_CHECKPOINT : IN_INSTRUCTION;
            }
        }

        private boolean needsCheckpoint() {
            if (guest.kind() == SENDS) {
                return since > 0;
            }
            return needsEntry() && entriesThatCount() >= plan.entries;
        }

        private boolean needsEntry() {
            int cell = guest.cellWritten();
            return guest.kind() == STORES_IN_STORE && cell >= 0 && cell < marks.length && marks[cell] != mark;
        }

        private void boot() {
            boolean undoes = store[LOG] >>> 16 == generation();
            int left = undoes ? entriesThatCount() - step : 0;
            if (left > 0) {
                int entry = logStart + 2 * (left - 1);
                write(stored(entry), stored(entry + 1));
                counts[ROLLED_BACK]++;
                step++;
            } else {
                write(LOG, generation() << 16);
                state = READY;
            }
        }

        private void checkpoint() {
            int flipStep = plan.bufferWords();
            int later = generation() + 1 & HALF;
            if (step < flipStep) {
                write(bufferStart(later) + step, guest.saved(step));
            } else if (step == flipStep) {
                write(FLIP, later);
                counts[CHECKPOINTS]++;
                since = 0;
                mark++;
            } else {
                write(LOG, generation() << 16);
                state = READY;
            }
            step++;
        }

        private void instruct() {
            int number = guest.owned(SENT) + 1;
            boolean unsent = guest.kind() == SENDS && store[OUT] != number;
            if (unsent && step == 0) {
                radio.send(guest, number, counts[CUTS]);
            } else if (unsent) {
                write(OUT, number);
            } else if (needsEntry()) {
                log(guest.cellWritten());
            } else {
                finish();
            }
            step++;
        }

        private void log(int cell) {
            int entry = logStart + 2 * entriesThatCount();
            if (step == 0) {
                write(entry, guestStart + cell);
            } else if (step == 1) {
                write(entry + 1, stored(guestStart + cell));
            } else {
                write(LOG, generation() << 16 | entriesThatCount() + 1);
                if (cell >= 0 && cell < marks.length) {
                    marks[cell] = mark;
                }
            }
        }

        private void finish() {
            if (guest.kind() == STORES_IN_STORE) {
                counts[WRITTEN]++;
            }
            if (guest.kind() == SENDS && radio.newest() != guest.owned(SENT) + 1) {
                strays++;
            }
            guest.finish();
            counts[DONE]++;
            since++;
            state = READY;
        }

        private void write(int w, int word) {
            if (w >= 0 && w < store.length) {
                store[w] = word;
                counts[WRITTEN]++;
            }
        }

        private int generation() {
            return store[FLIP] & HALF;
        }

        private int entriesThatCount() {
            return store[LOG] & HALF;
        }

        private int bufferStart(int generation) {
            return FIRST_BUFFER + (generation & 1) * plan.bufferWords();
        }

        int condition() {
            return state;
        }

        int owned(int i) {
            if (!hasPower()) {
                return 0;
            }
            return i == OWN ? since : guest.owned(i);
        }

        int ramByte(int a) {
            return hasPower() && guest.inRam(a) ? guest.byteAt(a) : -1;
        }

        int size() {
            return size;
        }

        int stored(int w) {
            return w >= 0 && w < size && w < store.length ? store[w] : 0;
        }

        Radio radio() {
            return radio;
        }

        int counted(int what) {
            return state != NOT_INSTALLED && what >= 0 && what < counts.length ? counts[what] : -1;
        }

        int strayed() {
            return strays;
        }
    }

    /** The machine without power, checkpoints or log, begun anew by every run. */
    private static final class PlainMachine {
        private final Plan plan;
        private final int[] store;
        private final Guest guest;
        private final Radio radio = new Radio();
        private boolean ran;
        private int ending;

        PlainMachine(Plan plan) {
            this.plan = plan;
            int[] words = new int[MOST_STORE / 4];
            store = words;
            guest = new Guest(plan, words);
        }

        void forget() {
            ran = false;
            ending = GOES_ON;
            radio.clear();
        }

        int run(int most) {
            begin();
            int done = 0;
            while (done < most && ending == GOES_ON) {
                if (guest.kind() == SENDS) {
                    radio.send(guest, guest.owned(SENT) + 1, 0);
                }
                guest.finish();
                done++;
                ending = guest.look();
            }
            return done;
        }

        private void begin() {
            forget();
            ran = true;
            for (int i = 0; i < plan.bufferWords(); i++) {
                guest.restore(i, i == PC ? plan.start : 0);
            }
            plan.copyImage(store, 0);
            ending = guest.look();
        }

        int owned(int i) {
            if (!ran) {
                return 0;
            }
            return i == COUNT ? ending : guest.owned(i);
        }

        int memoryByte(int a) {
            return ran && guest.holds(a, 1) ? guest.byteAt(a) : -1;
        }

        Radio radio() {
            return radio;
        }
    }
}
