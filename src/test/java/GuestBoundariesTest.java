/** The document's terms up to 2 THE GUEST: a test for each sentence that names a boundary, on both machines. */
public final class GuestBoundariesTest {
    private static final int S = Asm.STORE;
    private static final int MIN = Integer.MIN_VALUE;
    private static final int MAX = Integer.MAX_VALUE;
    private static final Check CHECK = new Check("GuestBoundariesTest");

    private GuestBoundariesTest() {
    }

    public static void main(String[] args) {
        numbersWrap();
        addressesWrap();
        placesWrap();
        withoutSign();
        lowestByteFirst();
        ramSizes();
        ramAddresses();
        storeSizes();
        storeAddresses();
        smallestStore();
        layout();
        logLayout();
        zeroRegister();
        registerNumbers();
        everyTarget();
        wordAtPc();
        upperNumber();
        signedNumber();
        jumpNumber();
        jumpByRegister();
        branchNumber();
        branchRelations();
        loadedSigns();
        storedLowest();
        storeNumber();
        comparisonsWithNumber();
        shiftsByNumber();
        reckoningWithRegister();
        bitwise();
        nothing();
        noRegisterSet();
        callWord();
        samplesBehindLast();
        halfSizedPlaces();
        placesNotTaken();
        unevenAddresses();
        sentBytes();
        longSends();
        orderOfTraps();
        notDone();
        plainBeginning();
        plainFramesOnce();
        CHECK.end();
    }

    /** x6 = a, x7 = b, then the word: the fifth instruction is done by both machines, or ended them. */
    private static SensorNode after(int r, int g, int a, int b, int word) {
        SensorNode x = Asm.running(r, g, 8, 64, Asm.join(Asm.set(6, a), Asm.set(7, b), Asm.words(word)));
        Asm.until(x, 5);
        x.plain(5);
        return x;
    }

    private static SensorNode after(int a, int b, int word) {
        return after(16, 128, a, b, word);
    }

    private static void atPc(String what, SensorNode x, int pc) {
        CHECK.due(what + ": COUNT", x.register(35), 5);
        CHECK.due(what + ": PC", x.register(32), pc);
        CHECK.due(what + ": plain PC", x.plainly(32), pc);
    }

    /** x8 is as wanted behind the word. */
    private static void gives(String what, int a, int b, int word, int want) {
        SensorNode x = after(a, b, word);
        atPc(what, x, S + 20);
        CHECK.due(what, x.register(8), want);
        CHECK.due(what + ", plain", x.plainly(8), want);
    }

    private static void goesTo(String what, int a, int b, int word, int place) {
        atPc(what, after(a, b, word), place);
    }

    private static void ended(String what, SensorNode x, int count, int want) {
        CHECK.due(what + ": state", x.state(), want);
        CHECK.due(what + ": COUNT stays", x.register(35), count);
        CHECK.due(what + ": PC stays", x.register(32), x.plainly(32));
        CHECK.due(what + ": plain", x.plainly(35), want);
    }

    private static void ends(String what, int a, int b, int word, int want) {
        SensorNode x = after(a, b, word);
        ended(what, x, 4, want);
        CHECK.due(what + ": PC stays at it", x.register(32), S + 16);
        CHECK.due(what + ": x8 stays", x.register(8), 0);
    }

    /** A load and a store there, of 1 << f bytes, are done (3) or end with the state. */
    private static void access(int r, int g, int f, int at, int state) {
        int[] words = {Asm.load(f, 8, 6, 0), Asm.store(f, 7, 6, 0)};
        for (int word : words) {
            String what = (word == words[0] ? "load" : "store") + " f " + f + " at " + at + ", r " + r + ", g " + g;
            SensorNode x = after(r, g, at, 5, word);
            if (state == 3) {
                atPc(what, x, S + 20);
            } else {
                ended(what, x, 4, state);
            }
        }
    }

    private static SensorNode startedAt(int r, int g, int pc) {
        SensorNode x = new SensorNode();
        x.install(r, g, 8, 16, pc);
        x.on();
        x.go(1);
        x.plain(1);
        return x;
    }

    /** The word is put at a place of RAM, and done there as the seventh instruction. */
    private static SensorNode fromRam(int r, int at, int word) {
        SensorNode x = Asm.running(r, 128, 8, 64,
            Asm.join(Asm.set(5, at), Asm.set(6, word), Asm.words(Asm.sw(6, 5, 0), Asm.jalr(0, 5, 0))));
        Asm.until(x, 7);
        x.plain(7);
        CHECK.due("seven are done", x.register(35), 7);
        return x;
    }

    /** x17, x10, x11 are set, then a CALL. */
    private static SensorNode called(int r, int g, int x17, int x10, int x11) {
        SensorNode x = Asm.running(r, g, 8, 64,
            Asm.join(Asm.set(17, x17), Asm.set(10, x10), Asm.set(11, x11), Asm.words(Asm.CALL)));
        x.go(6);
        x.go(x17 == 2 ? 36 + r / 4 + 2 + 3 : 1);
        x.plain(7);
        return x;
    }

    private static void numbersWrap() {
        CHECK.sentence("All numbers are of 32 bits and wrap");
        gives("MAX + 1", MAX, 0, Asm.addi(8, 6, 1), MIN);
        gives("MIN - 1", MIN, 0, Asm.addi(8, 6, -1), MAX);
        gives("-1 + 1", -1, 0, Asm.addi(8, 6, 1), 0);
        gives("MAX + MAX", MAX, MAX, Asm.r(0, 0, 8, 6, 7), -2);
        gives("MIN + MIN", MIN, MIN, Asm.r(0, 0, 8, 6, 7), 0);
        gives("MIN - 1 of registers", MIN, 1, Asm.r(0, 32, 8, 6, 7), MAX);
        gives("0 - MIN", 0, MIN, Asm.r(0, 32, 8, 6, 7), MIN);
        gives("PC + U", 0, 0, Asm.auipc(8, 0xC0000000), 16);
    }

    private static void addressesWrap() {
        CHECK.sentence("All numbers are of 32 bits and wrap; addresses");
        SensorNode x = Asm.running(16, 128, 8, 64, Asm.li(6, -4), Asm.li(7, 77), Asm.sw(7, 6, 8), Asm.load(2, 8, 0, 4),
            Asm.load(2, 9, 6, 8));
        x.go(5);
        CHECK.due("a store at -4 + 8", x.register(8), 77);
        CHECK.due("a load at -4 + 8", x.register(9), 77);
        SensorNode y = after(MIN + 4, 0, Asm.load(2, 8, 6, -8));
        ended("a load at MIN - 4", y, 4, 13);
        SensorNode z = after(MAX, 0, Asm.store(0, 7, 6, 1));
        ended("a store at MAX + 1", z, 4, 13);
    }

    private static void placesWrap() {
        CHECK.sentence("All numbers are of 32 bits and wrap; places");
        for (int word : new int[] {Asm.jal(8, -4), Asm.branch(0, 0, 0, -4)}) {
            SensorNode x = fromRam(16, 0, word);
            CHECK.due("PC of 0 - 4", x.register(32), -4);
            CHECK.due("plain PC of 0 - 4", x.plainly(32), -4);
            CHECK.due("that is outside", x.go(1), 1);
            CHECK.due("state", x.state(), 13);
        }
        goesTo("-8 + 12", -8, 0, Asm.jalr(8, 6, 12), 4);
        goesTo("4 - 8", 4, 0, Asm.jalr(8, 6, -8), -4);
    }

    private static void withoutSign() {
        CHECK.sentence("addresses and counts are without sign where nothing else is said");
        access(16, 128, 0, -1, 13);
        access(16, 128, 1, -2, 13);
        access(16, 128, 2, -4, 13);
        access(16, 128, 2, MIN, 13);
        access(16, 128, 0, MIN + 1, 13);
        access(16, 128, 2, MIN + S, 13);
        CHECK.due("-1 bytes are more than 64", called(16, 128, 2, 0, -1).state(), 14);
        CHECK.due("MIN bytes are more than 64", called(16, 128, 2, 0, MIN).state(), 14);
        CHECK.due("PC of -4", startedAt(16, 128, -4).state(), 13);
    }

    private static void lowestByteFirst() {
        CHECK.sentence("in memory the lowest byte comes first");
        SensorNode x = Asm.running(8, 128, 8, 64, Asm.join(Asm.set(5, S), Asm.set(6, 0x84838281),
            Asm.words(Asm.sw(6, 0, 4), Asm.sw(6, 5, 124), Asm.load(5, 7, 5, 124), Asm.load(5, 8, 0, 6))));
        Asm.until(x, 8);
        x.plain(8);
        for (int i = 0; i < 4; i++) {
            CHECK.due("byte of RAM", x.ram(4 + i), 0x81 + i);
            CHECK.due("plain byte of RAM", x.plainByte(4 + i), 0x81 + i);
            CHECK.due("plain byte of the store", x.plainByte(S + 124 + i), 0x81 + i);
        }
        CHECK.due("half", x.register(7), 0x8281);
        CHECK.due("upper half", x.register(8), 0x8483);
        CHECK.due("word", x.word(x.words() - 1), 0x84838281);
    }

    private static void ramSizes() {
        CHECK.sentence("RAM has r bytes (r a multiple of 4, 4 .. 4096)");
        for (int r : new int[] {4, 8, 12, 4092, 4096}) {
            CHECK.due("r " + r, new SensorNode().install(r, 4, 8, 16, 0), 0);
        }
        for (int r : new int[] {0, 1, 2, 3, 5, 6, 7, 4093, 4094, 4095, 4097, 4100, 8192, -4, -1, MIN, MAX, MIN + 4, MAX - 3}) {
            CHECK.due("r " + r, new SensorNode().install(r, 4, 8, 16, 0), -1);
        }
    }

    private static void ramAddresses() {
        CHECK.sentence("at the addresses 0 .. r - 1");
        for (int r : new int[] {4, 8, 4096}) {
            access(r, 128, 0, -1, 13);
            access(r, 128, 0, 0, 3);
            access(r, 128, 0, r - 1, 3);
            access(r, 128, 0, r, 13);
            access(r, 128, 1, r - 2, 3);
            access(r, 128, 1, r, 13);
            access(r, 128, 2, r - 4, 3);
            access(r, 128, 2, r, 13);
            CHECK.due("PC 0, r " + r, startedAt(r, 4, 0).state(), 11);
            CHECK.due("PC r - 4, r " + r, startedAt(r, 4, r - 4).state(), 11);
            CHECK.due("PC r, r " + r, startedAt(r, 4, r).state(), 13);
            CHECK.due("plain PC r, r " + r, startedAt(r, 4, r).plainly(35), 13);
            SensorNode x = after(r, 128, r - 1, 0x1FE, Asm.store(0, 7, 6, 0));
            CHECK.due("ram(r - 1)", x.ram(r - 1), 0xFE);
            CHECK.due("ram(r)", x.ram(r), -1);
            CHECK.due("plainByte(r - 1)", x.plainByte(r - 1), 0xFE);
            CHECK.due("plainByte(r)", x.plainByte(r), -1);
        }
    }

    private static void storeSizes() {
        CHECK.sentence("The guest sees g bytes of it (g a multiple of 4, 4 .. 8192)");
        for (int g : new int[] {4, 8, 12, 8188, 8192}) {
            CHECK.due("g " + g, new SensorNode().install(4, g, 8, 16, 0), 0);
        }
        for (int g : new int[] {0, 1, 2, 3, 5, 6, 7, 8189, 8190, 8191, 8193, 8196, 16384, -4, -1, MIN, MAX, MIN + 4, MAX - 3}) {
            CHECK.due("g " + g, new SensorNode().install(4, g, 8, 16, 0), -1);
        }
    }

    private static void storeAddresses() {
        CHECK.sentence("at the addresses 1073741824 (2^30) .. 2^30 + g - 1");
        for (int g : new int[] {128, 8192}) {
            access(4, g, 0, S - 1, 13);
            access(4, g, 0, S, 3);
            access(4, g, 0, S + g - 1, 3);
            access(4, g, 0, S + g, 13);
            access(4, g, 1, S - 2, 13);
            access(4, g, 1, S + g - 2, 3);
            access(4, g, 1, S + g, 13);
            access(4, g, 2, S - 4, 13);
            access(4, g, 2, S + g - 4, 3);
            access(4, g, 2, S + g, 13);
            SensorNode x = after(4, g, S + g - 1, 0x1FE, Asm.store(0, 7, 6, 0));
            CHECK.due("the last word", x.word(x.words() - 1), 0xFE000000);
            CHECK.due("plainByte of the last", x.plainByte(S + g - 1), 0xFE);
            CHECK.due("plainByte behind it", x.plainByte(S + g), -1);
        }
        for (int g : new int[] {4, 8, 128, 8192}) {
            CHECK.due("PC before the store", startedAt(4, g, S - 4).state(), 13);
            CHECK.due("PC at its first", startedAt(4, g, S).state(), 11);
            CHECK.due("PC at its last", startedAt(4, g, S + g - 4).state(), 11);
            CHECK.due("PC behind it", startedAt(4, g, S + g).state(), 13);
            CHECK.due("plain PC behind it", startedAt(4, g, S + g).plainly(35), 13);
        }
    }

    private static void smallestStore() {
        CHECK.sentence("The guest sees g bytes of it (g a multiple of 4, 4 ..");
        SensorNode x = Asm.running(4, 4, 8, 16, Asm.NOP);
        CHECK.due("one word is done, the next is none", x.go(9), 2);
        CHECK.due("state", x.state(), 13);
        CHECK.due("PC", x.register(32), S + 4);
        int[] lasts = {Asm.load(2, 6, 5, 4), Asm.load(0, 6, 5, 7), Asm.sw(5, 5, 4), Asm.load(2, 6, 5, 8), Asm.load(0, 6, 5, 8)};
        for (int i = 0; i < lasts.length; i++) {
            SensorNode y = Asm.running(4, 8, 8, 16, Asm.auipc(5, 0), lasts[i]);
            Asm.until(y, 2);
            CHECK.due("of two words, " + i, y.register(35), i < 3 ? 2 : 1);
            CHECK.due("state of two words, " + i, y.state(), i < 3 ? 3 : 13);
        }
    }

    /** Stores to the guest's last word and sends two frames: a checkpoint to each buffer. */
    private static void layout(int r, int g, int l) {
        SensorNode x = Asm.running(r, g, l, 65536, Asm.join(Asm.set(6, S + g - 4),
            Asm.words(Asm.sw(6, 6, 0), Asm.sw(6, 0, r - 4 & 2044), Asm.li(17, 2), Asm.CALL, Asm.CALL)));
        int buffer = 36 + r / 4;
        int log = 3 + 2 * buffer;
        int guest = log + 2 * l;
        CHECK.due("words()", x.words(), guest + g / 4);
        CHECK.due("PC in the first buffer", x.word(3 + 32), S);
        CHECK.due("the guest's first word", x.word(guest), Asm.lui(6, S + g - 4 - ((S + g - 4) << 20 >> 20)));
        x.go(2 + 4);
        CHECK.due("an entry's number", x.word(log), guest + g / 4 - 1);
        CHECK.due("what it was", x.word(log + 1), 0);
        CHECK.due("the guest's last word", x.word(guest + g / 4 - 1), S + g - 4);
        CHECK.due("LOG", x.word(1), 1);
        x.go(2 + buffer + 2);
        CHECK.due("FLIP", x.word(0), 1);
        CHECK.due("LOG of 1", x.word(1), 65536);
        CHECK.due("second buffer: x6", x.word(3 + buffer + 6), S + g - 4);
        CHECK.due("second buffer: PC", x.word(3 + buffer + 32), S + 20);
        CHECK.due("second buffer: SENT", x.word(3 + buffer + 34), 0);
        CHECK.due("second buffer: COUNT", x.word(3 + buffer + 35), 5);
        CHECK.due("second buffer: RAM", x.word(3 + buffer + 36 + (r - 4 & 2044) / 4), S + g - 4);
        CHECK.due("first buffer as it was", x.word(3 + 35), 0);
        CHECK.due("OUT", x.word(2), 0);
        x.go(3 + buffer + 2);
        CHECK.due("OUT of one", x.word(2), 1);
        CHECK.due("FLIP of two", x.word(0), 2);
        CHECK.due("first buffer: PC", x.word(3 + 32), S + 24);
        CHECK.due("first buffer: SENT", x.word(3 + 34), 1);
        CHECK.due("first buffer: COUNT", x.word(3 + 35), 6);
        CHECK.due("second buffer as it was", x.word(3 + buffer + 35), 5);
    }

    private static void layout() {
        CHECK.sentence("From 3 on: two BUFFERS of 36 + r / 4 words each, the first for even generations, the second for odd ones");
        layout(4, 32, 8);
        layout(8, 36, 9);
        layout(2048, 4096, 512);
        layout(4096, 8192, 1024);
    }

    private static void logLayout() {
        CHECK.sentence("Behind them l entries (l is 8 .. 1024) of two words: a word's number, and what it was. Behind them the guest's words.");
        for (int l : new int[] {8, 9, 1023, 1024}) {
            CHECK.due("l " + l, new SensorNode().install(4, 4, l, 16, 0), 0);
        }
        for (int l : new int[] {7, 1025, 0, -1, -8, MIN, MAX}) {
            CHECK.due("l " + l, new SensorNode().install(4, 4, l, 16, 0), -1);
        }
        // Eight words, the first of them not 0: all eight entries of the log are used.
        int[] words = new int[18];
        words[0] = Asm.lui(5, S);
        for (int i = 0; i < 8; i++) {
            words[1 + i] = Asm.sw(5, 5, 64 + 4 * i);
        }
        words[9] = Asm.jal(0, 0);
        words[16] = 1234;
        words[17] = 5678;
        SensorNode x = Asm.running(4, 96, 8, 65536, words);
        x.go(1 + 8 * 4);
        int log = 3 + 2 * 37;
        for (int i = 0; i < 8; i++) {
            CHECK.due("number of entry " + i, x.word(log + 2 * i), log + 16 + 16 + i);
            CHECK.due("what it was, entry " + i, x.word(log + 2 * i + 1), i == 0 ? 1234 : i == 1 ? 5678 : 0);
        }
        CHECK.due("the guest's first word behind them", x.word(log + 16), words[0]);
    }

    private static void zeroRegister() {
        CHECK.sentence("registers x0 (always 0)");
        int[] words = {
            Asm.lui(0, 4096), Asm.auipc(0, 4096), Asm.jal(0, 4), Asm.jalr(0, 6, 20), Asm.load(2, 0, 6, 0), Asm.addi(0, 6, 1),
            Asm.r(0, 0, 0, 6, 7), Asm.r(6, 0, 0, 6, 7), Asm.i(19, 1, 0, 6, 1)
        };
        for (int word : words) {
            SensorNode x = after(S, 7, word);
            atPc("word " + word, x, S + 20);
            CHECK.due("x0 behind " + word, x.register(0), 0);
            CHECK.due("plain x0 behind " + word, x.plainly(0), 0);
        }
        gives("x0 as a", 5, 7, Asm.r(0, 0, 8, 0, 7), 7);
        gives("x0 as b", 5, 7, Asm.r(0, 32, 8, 6, 0), 5);
    }

    private static void registerNumbers() {
        CHECK.sentence("registers x0 (always 0) .. x31");
        SensorNode x = Asm.running(4, 128, 8, 64, Asm.li(31, 5), Asm.r(0, 0, 31, 31, 31), Asm.addi(1, 31, 1), Asm.sw(31, 0, 0));
        x.go(4);
        x.plain(4);
        CHECK.due("x31", x.register(31), 10);
        CHECK.due("x1", x.register(1), 11);
        CHECK.due("x30", x.register(30), 0);
        CHECK.due("x31 stored", x.ram(0), 10);
        CHECK.due("plain x31", x.plainly(31), 10);
    }

    private static void everyTarget() {
        CHECK.sentence("d = bits 7-11, a = x of bits 15-19, b = x of bits 20-24");
        int[] begin = new int[31];
        for (int i = 1; i < 32; i++) {
            begin[i - 1] = Asm.li(i, 4 * i);
        }
        int pc = S + 4 * 31;
        for (int d = 1; d < 32; d++) {
            int a = 32 - d;
            int b = d % 31 + 1;
            int[][] cases = {
                // the word, what it gives to d, the next PC
                {Asm.lui(d, 4096), 4096, pc + 4}, {Asm.auipc(d, 4096), pc + 4096, pc + 4}, {Asm.jal(d, 16), pc + 4, pc + 16},
                {Asm.jalr(d, a, 0), pc + 4, 4 * a}, {Asm.load(2, d, a, 0), 0, pc + 4}, {Asm.addi(d, a, 3), 4 * a + 3, pc + 4},
                {Asm.r(0, 0, d, a, b), 4 * a + 4 * b, pc + 4}, {Asm.r(0, 32, d, a, b), 4 * a - 4 * b, pc + 4}
            };
            for (int[] c : cases) {
                SensorNode x = Asm.running(128, 256, 8, 64, Asm.join(begin, Asm.words(c[0])));
                x.go(32);
                x.plain(32);
                CHECK.due("PC behind " + c[0], x.register(32), c[2]);
                CHECK.due("plain PC behind " + c[0], x.plainly(32), c[2]);
                for (int i = 0; i < 32; i++) {
                    CHECK.due("x" + i + " behind " + c[0], x.register(i), i == d ? c[1] : 4 * i);
                    CHECK.due("plain x" + i + " behind " + c[0], x.plainly(i), i == d ? c[1] : 4 * i);
                }
            }
        }
    }

    private static void wordAtPc() {
        CHECK.sentence("An instruction is the word at PC (in RAM or in the store).");
        SensorNode first = fromRam(16, 0, Asm.li(9, 33));
        CHECK.due("in RAM's first word", first.register(9), 33);
        CHECK.due("on in RAM", first.register(32), 4);
        SensorNode last = fromRam(16, 12, Asm.li(9, 44));
        CHECK.due("in RAM's last word", last.register(9), 44);
        CHECK.due("plain in RAM's last word", last.plainly(9), 44);
        CHECK.due("behind RAM", last.go(9), 1);
        CHECK.due("no word there", last.state(), 13);
        CHECK.due("plain: no word there", last.plainly(35), 13);
        SensorNode end = Asm.running(4, 20, 8, 64, Asm.NOP, Asm.NOP, Asm.NOP, Asm.NOP, Asm.li(9, 55));
        CHECK.due("to the store's last word", end.go(9), 6);
        CHECK.due("in the store's last word", end.register(9), 55);
        CHECK.due("behind the store", end.state(), 13);
        // The word is read when its turn comes, not before.
        SensorNode anew = Asm.running(4, 128, 8, 64, Asm.join(Asm.set(5, S), Asm.set(6, Asm.li(9, 66)),
            Asm.words(Asm.sw(6, 5, 20), Asm.li(9, 11))));
        Asm.until(anew, 6);
        CHECK.due("a word just stored", anew.register(9), 66);
    }

    private static void upperNumber() {
        CHECK.sentence("55: d = U (the word & -4096). 23: d = PC + U.");
        for (int u : new int[] {0, 4096, MAX & -4096, MIN, -4096}) {
            gives("U " + u, 0, 0, Asm.lui(8, u), u);
            gives("PC + U " + u, 0, 0, Asm.auipc(8, u), S + 16 + u);
        }
    }

    private static void signedNumber() {
        CHECK.sentence("I = bits 20-31 with sign");
        for (int number : new int[] {0, 1, 2047, -1, -2047, -2048}) {
            gives("a + " + number, 5000, 0, Asm.addi(8, 6, number), 5000 + number);
        }
        for (int number : new int[] {2047, -2048}) {
            SensorNode x = Asm.running(4096, 128, 8, 64, Asm.join(Asm.set(6, 2048), Asm.set(7, 2048 + number),
                Asm.words(Asm.li(9, 99), Asm.store(0, 9, 7, 0), Asm.load(4, 8, 6, number))));
            x.go(7);
            CHECK.due("a load by " + number, x.register(8), 99);
        }
    }

    private static void jumpNumber() {
        CHECK.sentence("J: bit 31 with sign as 20, 12-19 as they stand, 20 as 11, 21-30 as 1-10");
        for (int bit = 2; bit < 20; bit++) {
            goesTo("J of bit " + bit, 0, 0, Asm.jal(8, 1 << bit), S + 16 + (1 << bit));
        }
        goesTo("J least", 0, 0, Asm.jal(8, -(1 << 20)), S + 16 - (1 << 20));
        goesTo("J greatest", 0, 0, Asm.jal(8, (1 << 20) - 4), S + 16 + (1 << 20) - 4);
        goesTo("J of bit 31 alone", 0, 0, MIN | 8 << 7 | 111, S + 16 - (1 << 20));
        gives("d = PC + 4", 0, 0, Asm.jal(8, 4), S + 20);
        goesTo("J of 0", 0, 0, Asm.jal(8, 0), S + 16);
    }

    private static void jumpByRegister() {
        CHECK.sentence("103, f 0: on at (a + I) & -2, by a as it was, d = PC + 4.");
        goesTo("even", S + 40, 0, Asm.jalr(8, 6, 0), S + 40);
        goesTo("odd is made even", S + 41, 0, Asm.jalr(8, 6, 0), S + 40);
        goesTo("odd by I", S + 40, 0, Asm.jalr(8, 6, -3 + 4), S + 40);
        goesTo("I greatest", S + 41, 0, Asm.jalr(8, 6, 2047), S + 2088);
        goesTo("I least", S + 2048, 0, Asm.jalr(8, 6, -2048), S);
        SensorNode x = after(S + 40, 0, Asm.jalr(6, 6, 4));
        atPc("by a as it was", x, S + 44);
        CHECK.due("d = PC + 4", x.register(6), S + 20);
        CHECK.due("plain d = PC + 4", x.plainly(6), S + 20);
        for (int f = 1; f < 8; f++) {
            ends("f " + f, S, 0, Asm.i(103, f, 8, 6, 0), 11);
        }
    }

    private static void branchNumber() {
        CHECK.sentence("B: bit 31 with sign as 12, 7 as 11, 25-30 as 5-10, 8-11 as 1-4");
        for (int bit = 2; bit < 12; bit++) {
            goesTo("B of bit " + bit, 0, 0, Asm.branch(0, 6, 7, 1 << bit), S + 16 + (1 << bit));
        }
        goesTo("B least", 0, 0, Asm.branch(0, 6, 7, -4096), S + 16 - 4096);
        goesTo("B greatest", 0, 0, Asm.branch(0, 6, 7, 4092), S + 16 + 4092);
        goesTo("B of bit 31 alone", 0, 0, MIN | 7 << 20 | 6 << 15 | 99, S + 16 - 4096);
        goesTo("B of bit 7 alone", 0, 0, 7 << 20 | 6 << 15 | 1 << 7 | 99, S + 16 + 2048);
        goesTo("B of 0", 0, 0, Asm.branch(0, 6, 7, 0), S + 16);
    }

    private static void branchRelations() {
        CHECK.sentence("if f 0: a = b, 1: not, 4: a < b, 5: not, 6: a < b without sign, 7: not");
        int[][] cases = {
            // a, b, equal, below, below without sign
            {5, 5, 1, 0, 0}, {4, 5, 0, 1, 1}, {6, 5, 0, 0, 0}, {-1, 0, 0, 1, 0}, {0, -1, 0, 0, 1}, {MIN, MAX, 0, 1, 0},
            {MAX, MIN, 0, 0, 1}, {MIN, MIN, 1, 0, 0}, {-1, -1, 1, 0, 0}, {-2, -1, 0, 1, 1}, {0, 0, 1, 0, 0}, {MIN, 0, 0, 1, 0}
        };
        int[] fs = {0, 4, 6};
        for (int[] c : cases) {
            for (int i = 0; i < 3; i++) {
                int place = c[2 + i] == 1 ? S + 32 : S + 20;
                int other = c[2 + i] == 1 ? S + 20 : S + 32;
                goesTo("f " + fs[i] + " of " + c[0] + ", " + c[1], c[0], c[1], Asm.branch(fs[i], 6, 7, 16), place);
                goesTo("not f " + fs[i] + " of " + c[0] + ", " + c[1], c[0], c[1], Asm.branch(fs[i] + 1, 6, 7, 16), other);
            }
        }
        ends("f 2", 0, 0, Asm.branch(2, 6, 7, 16), 11);
        ends("f 3", 0, 0, Asm.branch(3, 6, 7, 16), 11);
    }

    private static void loadedSigns() {
        CHECK.sentence("f 0 a byte, 1 a half (2 bytes), 2 a word, 4 a byte, 5 a half; 0 and 1 with sign.");
        int[][] cases = {
            // f, stored word, loaded
            {0, 127, 127}, {0, 128, -128}, {0, 255, -1}, {0, 256, 0}, {4, 127, 127}, {4, 128, 128}, {4, 255, 255}, {4, 256, 0},
            {1, 32767, 32767}, {1, 32768, -32768}, {1, 65535, -1}, {1, 65536, 0}, {5, 32767, 32767}, {5, 32768, 32768},
            {5, 65535, 65535}, {5, 65536, 0}, {2, MIN, MIN}, {2, MAX, MAX}, {2, -1, -1}
        };
        for (int[] c : cases) {
            SensorNode x = Asm.running(4, 128, 8, 64, Asm.join(Asm.set(6, c[1]),
                Asm.words(Asm.sw(6, 0, 0), Asm.load(c[0], 8, 0, 0))));
            x.go(4);
            x.plain(4);
            CHECK.due("f " + c[0] + " of " + c[1], x.register(8), c[2]);
            CHECK.due("plain f " + c[0] + " of " + c[1], x.plainly(8), c[2]);
        }
        for (int f : new int[] {3, 6, 7}) {
            ends("f " + f, 0, 0, Asm.load(f, 8, 6, 0), 11);
        }
    }

    private static void storedLowest() {
        CHECK.sentence("b's lowest: f 0 byte, 1 half, 2 word");
        int[][] cases = {
            {0, 0, 0x000000F1}, {0, 1, 0x0000F100}, {0, 2, 0x00F10000}, {0, 3, 0xF1000000}, {1, 0, 0x0000E2F1}, {1, 2, 0xE2F10000},
            {2, 0, 0xC4D3E2F1}
        };
        for (int[] c : cases) {
            for (int at : new int[] {4, S + 68}) {
                SensorNode x = after(at + c[1], 0xC4D3E2F1, Asm.store(c[0], 7, 6, 0));
                int base = at & -4;
                for (int k = -4; k < 8; k++) {
                    int want = k < 0 || k > 3 ? 0 : c[2] >>> 8 * k & 255;
                    CHECK.due("plain byte " + k + " of f " + c[0] + " at " + c[1], x.plainByte(base + k), want);
                }
                int stored = at == 4 ? x.ram(4) | x.ram(5) << 8 | x.ram(6) << 16 | x.ram(7) << 24 : x.word(x.words() - 32 + 17);
                CHECK.due("f " + c[0] + " at " + (at + c[1]), stored, c[2]);
            }
        }
        for (int f = 3; f < 8; f++) {
            ends("f " + f, 0, 0, Asm.store(f, 7, 6, 0), 11);
        }
    }

    private static void storeNumber() {
        CHECK.sentence("at a + S (bits 25-31 with sign above 7-11)");
        for (int s : new int[] {0, 1, 31, 32, 2047, -1, -32, -33, -2048}) {
            SensorNode x = after(4096, 128, 2048, 88, Asm.store(0, 7, 6, s));
            CHECK.due("S of " + s, x.ram(2048 + s), 88);
            CHECK.due("plain S of " + s, x.plainByte(2048 + s), 88);
        }
        for (int bit = 0; bit < 11; bit++) {
            CHECK.due("S of bit " + bit, after(4096, 128, 2048, 88, Asm.store(0, 7, 6, 1 << bit)).ram(2048 + (1 << bit)), 88);
        }
    }

    private static void comparisonsWithNumber() {
        CHECK.sentence("2: 1 if a < I else 0, 3: so without sign");
        int[][] cases = {
            // a, I, below, below without sign
            {5, 5, 0, 0}, {4, 5, 1, 1}, {6, 5, 0, 0}, {-1, -1, 0, 0}, {-2, -1, 1, 1}, {0, -1, 0, 1}, {-1, 0, 1, 0}, {MIN, 0, 1, 0},
            {MAX, -2048, 0, 1}, {-2048, -2048, 0, 0}, {-2049, -2048, 1, 1}, {2046, 2047, 1, 1}, {2047, 2047, 0, 0}, {MIN, -2048, 1, 1}
        };
        for (int[] c : cases) {
            gives("f 2 of " + c[0] + ", " + c[1], c[0], 0, Asm.i(19, 2, 8, 6, c[1]), c[2]);
            gives("f 3 of " + c[0] + ", " + c[1], c[0], 0, Asm.i(19, 3, 8, 6, c[1]), c[3]);
        }
        gives("xor with sign", 0x0F, 0, Asm.i(19, 4, 8, 6, -1), ~0x0F);
        gives("or with sign", 0x0F, 0, Asm.i(19, 6, 8, 6, -2048), -2048 | 0x0F);
        gives("and with sign", -1, 0, Asm.i(19, 7, 8, 6, -2048), -2048);
    }

    private static void shiftsByNumber() {
        CHECK.sentence("1 (h 0): a << n, 5 (h 0): a >>> n, 5 (h 32): a >> n, n = bits 20-24");
        for (int n : new int[] {0, 1, 30, 31}) {
            for (int a : new int[] {1, -1, MIN, MAX}) {
                gives(a + " << " + n, a, 0, Asm.i(19, 1, 8, 6, n), a << n);
                gives(a + " >>> " + n, a, 0, Asm.i(19, 5, 8, 6, n), a >>> n);
                gives(a + " >> " + n, a, 0, Asm.i(19, 5, 8, 6, 1024 | n), a >> n);
            }
        }
        for (int h : new int[] {1, 2, 4, 8, 16, 31, 32, 33, 64, 96, 127}) {
            ends("f 1, h " + h, 1, 0, Asm.i(19, 1, 8, 6, h << 5), 11);
            if (h != 32) {
                ends("f 5, h " + h, 1, 0, Asm.i(19, 5, 8, 6, h << 5), 11);
            }
        }
    }

    private static void reckoningWithRegister() {
        CHECK.sentence("51, h 0: f 0 a + b, 1 a << b, 2 a < b, 3 without sign, 4 xor, 5 a >>> b, 6 or, 7 and; h 32: 0 a - b, 5 a >> b (by b & 31).");
        int[][] bs = {{0, 0}, {1, 1}, {31, 31}, {32, 0}, {33, 1}, {63, 31}, {64, 0}, {-1, 31}, {-32, 0}, {MIN, 0}, {MIN + 1, 1}};
        for (int[] b : bs) {
            for (int a : new int[] {1, -1, MIN, MAX}) {
                gives(a + " << " + b[0], a, b[0], Asm.r(1, 0, 8, 6, 7), a << b[1]);
                gives(a + " >>> " + b[0], a, b[0], Asm.r(5, 0, 8, 6, 7), a >>> b[1]);
                gives(a + " >> " + b[0], a, b[0], Asm.r(5, 32, 8, 6, 7), a >> b[1]);
            }
        }
        int[][] relations = {{5, 5, 0, 0}, {4, 5, 1, 1}, {6, 5, 0, 0}, {-1, 0, 1, 0}, {0, -1, 0, 1}, {MIN, MAX, 1, 0}, {MAX, MIN, 0, 1}};
        for (int[] c : relations) {
            gives(c[0] + " < " + c[1], c[0], c[1], Asm.r(2, 0, 8, 6, 7), c[2]);
            gives(c[0] + " < " + c[1] + " without sign", c[0], c[1], Asm.r(3, 0, 8, 6, 7), c[3]);
        }
        for (int f = 0; f < 8; f++) {
            for (int h : new int[] {1, 16, 31, 33, 64, 127}) {
                ends("f " + f + ", h " + h, 1, 1, Asm.r(f, h, 8, 6, 7), 11);
            }
            if (f != 0 && f != 5) {
                ends("f " + f + ", h 32", 1, 1, Asm.r(f, 32, 8, 6, 7), 11);
            }
        }
    }

    private static void bitwise() {
        CHECK.sentence("4 xor, 5 a >>> b, 6 or, 7 and");
        int a = 0x0000F0CC;
        gives("xor", a, 0xAAAAAAAA, Asm.r(4, 0, 8, 6, 7), a ^ 0xAAAAAAAA);
        gives("or", a, 0xAAAAAAAA, Asm.r(6, 0, 8, 6, 7), a | 0xAAAAAAAA);
        gives("and", a, 0xAAAAAAAA, Asm.r(7, 0, 8, 6, 7), a & 0xAAAAAAAA);
        gives("xor with I", a, 0, Asm.i(19, 4, 8, 6, 0x2AA), a ^ 0x2AA);
        gives("or with I", a, 0, Asm.i(19, 6, 8, 6, 0x2AA), a | 0x2AA);
        gives("and with I", a, 0, Asm.i(19, 7, 8, 6, 0x2AA), a & 0x2AA);
    }

    private static void nothing() {
        CHECK.sentence("15, f 0: nothing.");
        for (int word : new int[] {15, 0xFFFF8F8F, 15 | 8 << 7, 15 | MIN}) {
            SensorNode x = after(0x66, 0x77, word);
            atPc("word " + word, x, S + 20);
            for (int i = 0; i < 32; i++) {
                CHECK.due("x" + i, x.register(i), i == 6 ? 0x66 : i == 7 ? 0x77 : 0);
            }
            CHECK.due("INDEX", x.register(33), 0);
            CHECK.due("SENT", x.register(34), 0);
        }
        for (int f = 1; f < 8; f++) {
            ends("f " + f, 0, 0, 15 | f << 12, 11);
        }
    }

    private static void noRegisterSet() {
        CHECK.sentence("99: on at PC + B .. 35: at a + S .. 15, f 0: nothing.");
        // Bits 7-11 are of B or S here and name no register: all of them are tried, with registers that are not 0.
        int[] begin = new int[31];
        for (int i = 1; i < 32; i++) {
            begin[i - 1] = Asm.li(i, 100 + i);
        }
        for (int d = 0; d < 32; d++) {
            int[] words = {15 | d << 7, 99 | 1 << 12 | d << 7, 99 | (d & 30) << 7 | 1 << 15 | 1 << 20, Asm.store(0, 1, 0, d)};
            for (int word : words) {
                SensorNode x = Asm.running(32, 256, 8, 64, Asm.join(begin, Asm.words(word)));
                x.go(32);
                x.plain(32);
                boolean done = word != words[2] || (d & 2) == 0;
                CHECK.due("COUNT behind " + word, x.register(35), done ? 32 : 31);
                for (int i = 0; i < 32; i++) {
                    CHECK.due("x" + i + " behind " + word, x.register(i), i == 0 ? 0 : 100 + i);
                    CHECK.due("plain x" + i + " behind " + word, x.plainly(i), i == 0 ? 0 : 100 + i);
                }
            }
        }
    }

    private static void callWord() {
        CHECK.sentence("The word 115: a CALL, by x17: 1 SAMPLE .. 2 SEND. 3 HALT. TRAPS: 1 a word that is none of these (or a CALL with another x17)");
        for (int bit = 7; bit < 32; bit++) {
            SensorNode x = Asm.running(4, 64, 8, 64, Asm.li(17, 1), 115 | 1 << bit);
            CHECK.due("115 and bit " + bit, x.go(9), 2);
            CHECK.due("state", x.state(), 11);
            CHECK.due("INDEX", x.register(33), 0);
        }
        for (int x17 : new int[] {0, 4, 5, 255, 256 + 1, 65536 + 2, -1, MIN, MAX, MIN + 1, MIN + 3}) {
            SensorNode x = called(4, 128, x17, 0, 0);
            ended("x17 " + x17, x, 6, 11);
        }
        CHECK.due("x17 1 goes on", called(4, 128, 1, 0, 0).register(33), 1);
        CHECK.due("x17 2 goes on", called(4, 128, 2, 0, 0).register(34), 1);
        CHECK.due("x17 3 ends", called(4, 128, 3, 0, 0).state(), 6);
        for (int op = 0; op < 128; op++) {
            boolean known = op == 55 || op == 23 || op == 111 || op == 103 || op == 99 || op == 3 || op == 35 || op == 19 || op == 51
                || op == 15;
            // 115 as x17 is 0 here.
            if (!known) {
                ends("bits 0-6 are " + op, 0, 0, op, 11);
            }
        }
    }

    private static void samplesBehindLast() {
        CHECK.sentence("1 SAMPLE: x10 = the next sample (0 behind the last), INDEX rises by 1.");
        int[] told = {7, 0, MIN, -1};
        for (int n = 0; n <= told.length; n++) {
            SensorNode x = Asm.node(4, 64, 8, 65536, Asm.li(17, 1), Asm.CALL, Asm.jal(0, -4));
            for (int i = 0; i < n; i++) {
                x.sample(told[i]);
            }
            x.on();
            x.go(1);
            for (int i = 0; i < n + 3; i++) {
                x.go(1);
                x.plain(2 + 2 * i);
                CHECK.due("sample " + i + " of " + n, x.register(10), i < n ? told[i] : 0);
                CHECK.due("INDEX", x.register(33), i + 1);
                CHECK.due("plain sample " + i + " of " + n, x.plainly(10), i < n ? told[i] : 0);
                CHECK.due("plain INDEX", x.plainly(33), i + 1);
                x.go(1);
            }
        }
        SensorNode x = Asm.running(4, 64, 8, 65536, Asm.li(17, 1), Asm.li(10, 99), Asm.CALL);
        x.go(3);
        CHECK.due("0 is given behind the last", x.register(10), 0);
    }

    private static void halfSizedPlaces() {
        CHECK.sentence("2 a PC, a place of a jump that is taken .. that is not a multiple of its size (4 for PC)");
        for (int pc = 0; pc < 8; pc++) {
            CHECK.due("PC " + pc, startedAt(8, 8, pc).state(), (pc & 3) == 0 ? 11 : 12);
            CHECK.due("PC of the store and " + pc, startedAt(8, 8, S + pc).state(), (pc & 3) == 0 ? 11 : 12);
            CHECK.due("plain PC " + pc, startedAt(8, 8, pc).plainly(35), (pc & 3) == 0 ? 11 : 12);
        }
        ends("jump by 2", 0, 0, Asm.jal(8, 2), 12);
        ends("jump by -2", 0, 0, Asm.jal(8, -2), 12);
        ends("jump by 6", 0, 0, Asm.jal(0, 6), 12);
        ends("to a + 2", S, 0, Asm.jalr(8, 6, 2), 12);
        ends("to a + 3", S, 0, Asm.jalr(8, 6, 3), 12);
        ends("to a - 1", S, 0, Asm.jalr(8, 6, -1), 12);
        ends("branch by 2", 0, 0, Asm.branch(0, 6, 7, 2), 12);
        ends("branch by -2", 0, 0, Asm.branch(5, 6, 7, -2), 12);
        // A place that is even but outside is no trap of the jump: PC traps there.
        SensorNode x = after(-4, 0, Asm.jalr(8, 6, 0));
        atPc("outside", x, -4);
        x.go(1);
        CHECK.due("then PC traps", x.state(), 13);
        CHECK.due("the jump was done", x.register(8), S + 20);
    }

    private static void placesNotTaken() {
        CHECK.sentence("a place of a jump that is taken");
        int[][] passed = {{0, 1, 2}, {1, 5, 5}, {4, 5, 5}, {5, 4, 5}, {6, -1, 0}, {7, 0, -1}};
        for (int[] c : passed) {
            for (int offset : new int[] {2, 6, -2}) {
                goesTo("f " + c[0] + " by " + offset, c[1], c[2], Asm.branch(c[0], 6, 7, offset), S + 20);
            }
        }
    }

    private static void unevenAddresses() {
        CHECK.sentence("an address of a half or word that is not a multiple of its size");
        for (int base : new int[] {4, S + 64}) {
            for (int k = 0; k < 4; k++) {
                access(16, 128, 0, base + k, 3);
                access(16, 128, 1, base + k, (k & 1) == 0 ? 3 : 12);
                access(16, 128, 2, base + k, k == 0 ? 3 : 12);
            }
        }
        ends("f 5 at 1", 1, 0, Asm.load(5, 8, 6, 0), 12);
        gives("f 5 at 2", 2, 0, Asm.load(5, 8, 6, 0), 0);
        gives("f 4 at 3", 3, 0, Asm.load(4, 8, 6, 0), 0);
    }

    private static void sends(int r, int g, int at, int n, int state) {
        SensorNode x = called(r, g, 2, at, n);
        String what = "SEND of " + n + " at " + at;
        CHECK.due(what, x.state(), state);
        CHECK.due(what + ": frames", x.frames(), state == 3 ? 1 : 0);
        CHECK.due(what + ": bytes", x.frame(0, 1), state == 3 ? n : -1);
        CHECK.due(what + ": plain bytes", x.plainFrame(0), state == 3 ? n : -1);
        CHECK.due(what + ": SENT", x.register(34), state == 3 ? 1 : 0);
        CHECK.due(what + ": plain SENT", x.plainly(34), state == 3 ? 1 : 0);
        if (state != 3) {
            ended(what, x, 6, state);
        }
    }

    private static void sentBytes() {
        CHECK.sentence("3 a PC, or bytes loaded, stored or sent, not wholly in RAM or in the guest's part of the store");
        sends(4, 128, 0, 4, 3);
        sends(4, 128, 0, 5, 13);
        sends(4, 128, 3, 1, 3);
        sends(4, 128, 3, 2, 13);
        sends(4, 128, 4, 1, 13);
        sends(4, 128, -1, 1, 13);
        sends(4, 128, -1, 2, 13);
        sends(4, 128, -64, 64, 13);
        sends(4096, 128, 4032, 64, 3);
        sends(4096, 128, 4033, 64, 13);
        sends(4096, 128, 4095, 1, 3);
        sends(4096, 128, 4096, 1, 13);
        sends(4, 128, S - 1, 1, 13);
        sends(4, 128, S - 1, 2, 13);
        sends(4, 128, S, 1, 3);
        sends(4, 128, S + 64, 64, 3);
        sends(4, 128, S + 65, 64, 13);
        sends(4, 128, S + 127, 1, 3);
        sends(4, 128, S + 128, 1, 13);
        sends(4, 8192, S + 8128, 64, 3);
        sends(4, 8192, S + 8129, 64, 13);
        sends(4, 128, MIN, 1, 13);
        sends(4, 128, MAX, 1, 13);
        sends(4, 128, MAX, 64, 13);
    }

    private static void longSends() {
        CHECK.sentence("4 a SEND of more than 64 bytes");
        sends(128, 128, 0, 63, 3);
        sends(128, 128, 0, 64, 3);
        sends(128, 128, 0, 65, 14);
        sends(128, 128, 0, MAX, 14);
        sends(128, 128, 0, MIN, 14);
        sends(128, 128, 0, -1, 14);
        sends(128, 128, 1, 64, 3);
    }

    private static void orderOfTraps() {
        CHECK.sentence("(PC is looked at first, 2 then 3; an instruction then in this order: 1, 4, 2, 3.)");
        CHECK.due("PC uneven and outside", startedAt(4, 4, 6).state(), 12);
        CHECK.due("PC uneven and outside, below 0", startedAt(4, 4, -2).state(), 12);
        CHECK.due("plain PC uneven and outside", startedAt(4, 4, 6).plainly(35), 12);
        CHECK.due("PC uneven where a word is none", startedAt(4, 4, 2).state(), 12);
        CHECK.due("PC outside where no word is", startedAt(4, 4, 8).state(), 13);
        ends("no such load, uneven and outside", -1, 0, Asm.load(3, 8, 6, 0), 11);
        ends("no such store, uneven and outside", -1, 0, Asm.store(3, 7, 6, 0), 11);
        ends("no such jump, to an uneven place", S + 2, 0, Asm.i(103, 2, 8, 6, 0), 11);
        ends("no such branch, to an uneven place", 0, 0, Asm.branch(2, 6, 7, 2), 11);
        CHECK.due("no such CALL, of 65 bytes outside", called(4, 128, 4, -1, 65).state(), 11);
        CHECK.due("65 bytes outside", called(4, 128, 2, -1, 65).state(), 14);
        CHECK.due("HALT of 65 bytes outside", called(4, 128, 3, -1, 65).state(), 6);
        ends("a half uneven and outside", -1, 0, Asm.load(1, 8, 6, 0), 12);
        ends("a word uneven and outside", S + 130, 0, Asm.load(2, 8, 6, 0), 12);
        ends("a word stored uneven and outside", 17, 0, Asm.store(2, 7, 6, 0), 12);
    }

    private static void notDone() {
        CHECK.sentence("An instruction that traps, and HALT, are not done (COUNT stays, PC stays at it): the guest has ENDED.");
        int[][] endings = {
            // x17, x10, x11, the last word, the state
            {3, 5, 5, Asm.CALL, 6}, {4, 5, 5, Asm.CALL, 11}, {0, 5, 5, 0, 11}, {0, 5, 5, Asm.load(2, 10, 10, 0), 12},
            {0, -4, 5, Asm.load(2, 11, 10, 0), 13}, {2, -4, 5, Asm.CALL, 13}, {2, 5, 65, Asm.CALL, 14},
            {0, 5, 5, Asm.jal(10, 2), 12}, {0, -4, 5, Asm.sw(11, 10, 0), 13}
        };
        for (int[] e : endings) {
            SensorNode x = Asm.running(16, 64, 8, 64, Asm.li(17, e[0]), Asm.li(10, e[1]), Asm.li(11, e[2]), e[3], Asm.NOP);
            CHECK.due("three, and the ending", x.go(50), 4);
            CHECK.due("state", x.state(), e[4]);
            CHECK.due("COUNT", x.register(35), 3);
            CHECK.due("SINCE", x.register(36), 3);
            CHECK.due("PC", x.register(32), S + 12);
            CHECK.due("x10", x.register(10), e[1]);
            CHECK.due("x11", x.register(11), e[2]);
            CHECK.due("INDEX", x.register(33), 0);
            CHECK.due("SENT", x.register(34), 0);
            CHECK.due("frames", x.frames(), 0);
            CHECK.due("checkpoints", x.count(4), 0);
            CHECK.due("it has ended", x.go(50), 0);
            CHECK.due("state still", x.state(), e[4]);
            CHECK.due("plain", x.plain(50), 3);
            CHECK.due("plain ending", x.plainly(35), e[4]);
            CHECK.due("plain PC", x.plainly(32), S + 12);
            CHECK.due("plain x10", x.plainly(10), e[1]);
            CHECK.due("plain SENT", x.plainly(34), 0);
        }
    }

    private static void plainBeginning() {
        CHECK.sentence("The PLAIN MACHINE has the same words for the guest, samples, r and g, at first registers and RAM 0 and the same PC");
        // Stores, samples and RAM change on the node, and a checkpoint is made, before the plain machine begins.
        SensorNode x = Asm.node(16, 64, 8, 16, Asm.auipc(5, 0), Asm.li(17, 1), Asm.CALL, Asm.sw(10, 5, 0), Asm.sw(10, 0, 12),
            Asm.jal(0, -12));
        x.sample(41);
        x.sample(42);
        x.on();
        x.go(300);
        CHECK.holds("there were checkpoints", x.count(4) > 0);
        CHECK.due("plain(0)", x.plain(0), 0);
        for (int i = 0; i < 36; i++) {
            CHECK.due("at first " + i, x.plainly(i), i == 32 ? S : 0);
        }
        for (int a = 0; a < 16; a++) {
            CHECK.due("RAM at first", x.plainByte(a), 0);
        }
        CHECK.due("no RAM behind r", x.plainByte(16), -1);
        CHECK.due("the word of install()", x.plainByte(S) | x.plainByte(S + 1) << 8, Asm.auipc(5, 0) & 65535);
        CHECK.due("no store behind g", x.plainByte(S + 64), -1);
        x.plain(3);
        CHECK.due("the first sample", x.plainly(10), 41);
        x.plain(5);
        CHECK.due("stored", x.plainByte(S), 41);
        CHECK.due("stored in RAM", x.plainByte(12), 41);
        x.plain(2);
        CHECK.due("from its beginning again", x.plainByte(S), Asm.auipc(5, 0) & 255);
        CHECK.due("RAM too", x.plainByte(12), 0);
        CHECK.due("INDEX too", x.plainly(33), 0);
    }

    private static void plainFramesOnce() {
        CHECK.sentence("its SENDs are sent out each once");
        SensorNode x = Asm.running(4, 64, 8, 16, Asm.li(17, 2), Asm.li(11, 1), Asm.CALL, Asm.li(11, 2), Asm.li(10, 0), Asm.CALL,
            Asm.jal(0, 0));
        // The node sends the first frame three times.
        x.go(2 + 39 + 1);
        for (int i = 0; i < 2; i++) {
            x.cut();
            x.on();
            x.go(1);
        }
        CHECK.due("frames of the node", x.frames(), 3);
        x.plain(50);
        CHECK.due("first", x.plainFrame(0), 1);
        CHECK.due("second", x.plainFrame(1), 2);
        CHECK.due("no third", x.plainFrame(2), -1);
        CHECK.due("SENT", x.plainly(34), 2);
        x.plain(50);
        CHECK.due("no third behind another plain()", x.plainFrame(2), -1);
    }
}
