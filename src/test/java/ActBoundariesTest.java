/** The document's terms 3 ACTS and 4 FURTHER: a test for each sentence that names a boundary. */
public final class ActBoundariesTest {
    private static final int S = Asm.STORE;
    private static final int MIN = Integer.MIN_VALUE;
    private static final Check CHECK = new Check("ActBoundariesTest");
    // With r 4: 37 words, FLIP and LOG.
    private static final int BUFFER = 37;
    private static final int CHECKPOINT = BUFFER + 2;

    private ActBoundariesTest() {
    }

    public static void main(String[] args) {
        lostWithPower();
        wholeWords();
        oneActEach();
        endingIsAnAct();
        bootOfNothing();
        bootOfBuffer();
        bootOfOldLog();
        bootOfEntries();
        bootOfFullLog();
        bootCutAnywhere();
        entriesNotYetCounted();
        checkpointOrder();
        cutAtFlip();
        sinceWithFlip();
        generationsWrap();
        intervals();
        dueAtK();
        dueAtGreatestK();
        dueWhatever();
        sendAtSince();
        sendThatTraps();
        fullLog();
        fullGreatestLog();
        fullLogThatNeedsNone();
        entryOnce();
        entryOfBytes();
        entryAgain();
        sendActs();
        sendAgain();
        sendKnown();
        sentBytesOfAct();
        cutInTheMidst();
        samplesBeforePower();
        lookedAtInOrder();
        lookedAtAnew();
        noBytesNoAddress();
        thereFromOn();
        bootingWritesWithGo();
        nothingUndoneBehindFlip();
        logOfFlipWhenReady();
        heardStays();
        CHECK.end();
    }

    private static void due(String call, long got, long want) {
        CHECK.due(call, got, want);
    }

    private static void repower(SensorNode x) {
        CHECK.due("cut()", x.cut(), true);
        CHECK.due("on()", x.on(), true);
    }

    /** x5 = the store's place, then stores of it to the n words from 64 on, which were 1000 and so on, then a jump to itself. */
    private static int[] storing(int n) {
        int[] words = new int[16 + n];
        words[0] = Asm.lui(5, S);
        int at = 1;
        for (int i = 0; i < n; i++) {
            words[at] = Asm.sw(5, 5, 64 + 4 * i);
            at++;
        }
        words[at] = Asm.jal(0, 0);
        for (int i = 0; i < n; i++) {
            words[16 + i] = 1000 + i;
        }
        return words;
    }

    private static SensorNode storer(int n, int l, int k) {
        return Asm.running(4, 128, l, k, storing(n));
    }

    private static int guestWord(SensorNode x, int i) {
        return x.word(x.words() - 32 + i);
    }

    private static void lostWithPower() {
        CHECK.sentence("it is lost with the power, as the registers are. STORE stays");
        SensorNode x = Asm.running(4, 64, 8, 16, Asm.lui(5, S), Asm.li(6, 77), Asm.sw(6, 0, 0), Asm.sw(6, 5, 60), Asm.li(17, 1),
            Asm.CALL);
        x.go(3 + 4 + 2);
        due("RAM", x.ram(0), 77);
        due("INDEX", x.register(33), 1);
        x.cut();
        for (int i = 0; i < 37; i++) {
            due("register " + i + " without power", x.register(i), 0);
        }
        due("RAM without power", x.ram(0), -1);
        due("the store stays", x.word(x.words() - 1), 77);
        due("LOG stays", x.word(1), 1);
        x.on();
        for (int i = 0; i < 37; i++) {
            due("register " + i + " of the buffer", x.register(i), i == 32 ? S : 0);
        }
        due("RAM of the buffer", x.ram(0), 0);
        due("the store stays", x.word(x.words() - 1), 77);
    }

    private static void wholeWords() {
        CHECK.sentence("words, each of which is written whole or not at all; a write of one is an ACT");
        SensorNode x = Asm.running(4, 128, 8, 64, Asm.join(Asm.set(5, S + 64), Asm.set(6, 0x11223344),
            Asm.words(Asm.sw(6, 5, 0), Asm.li(7, -1), Asm.store(1, 7, 5, 2), Asm.store(0, 7, 5, 0))));
        x.go(4 + 3);
        due("not at all", guestWord(x, 16), 0);
        x.go(1);
        due("whole", guestWord(x, 16), 0x11223344);
        x.go(2);
        due("a half of it", guestWord(x, 16), 0xFFFF3344);
        x.go(1);
        due("a byte of it", guestWord(x, 16), 0xFFFF33FF);
    }

    private static void oneActEach() {
        CHECK.sentence("An instruction that needs nothing else is one act, with which all that it does is done, COUNT and SINCE rise by 1.");
        int[] words = {
            Asm.lui(8, 4096), Asm.auipc(8, 4096), Asm.jal(8, 4), Asm.jalr(8, 6, 12), Asm.branch(0, 0, 0, 4), Asm.branch(1, 0, 0, 8),
            Asm.load(2, 8, 0, 0), Asm.load(2, 8, 6, 0), Asm.load(0, 8, 6, 63), Asm.sw(6, 0, 0), Asm.store(0, 6, 0, 3),
            Asm.addi(8, 6, 1), Asm.r(0, 0, 8, 6, 6), 15, Asm.CALL
        };
        for (int word : words) {
            SensorNode x = Asm.running(4, 64, 8, 64, Asm.li(17, 1), Asm.lui(6, S), word);
            x.go(2);
            due("one act of " + word, x.go(1), 1);
            due("ready behind " + word, x.state(), 3);
            due("COUNT", x.register(35), 3);
            due("SINCE", x.register(36), 3);
            due("PC", x.register(32), S + 12);
            due("acts", x.count(0), 3);
            due("instructions", x.count(2), 3);
            due("no word of the store", x.count(1), 0);
        }
    }

    private static void endingIsAnAct() {
        CHECK.sentence("Ending is an act.");
        SensorNode x = Asm.running(4, 64, 8, 64, Asm.li(17, 3), Asm.CALL);
        due("before HALT", x.go(1), 1);
        due("it is ready", x.state(), 3);
        due("no act, no ending", x.go(0), 0);
        due("ready still", x.state(), 3);
        due("HALT", x.go(1), 1);
        due("ended", x.state(), 6);
        due("acts", x.count(0), 2);
        due("instructions done", x.count(2), 1);
        due("no more", x.go(1), 0);
        due("acts still", x.count(0), 2);
        SensorNode y = Asm.running(4, 64, 8, 64);
        due("a trap at once", y.go(20000), 1);
        due("acts of a trap", y.count(0), 1);
        repower(y);
        due("and again", y.go(20000), 1);
        due("acts of two", y.count(0), 2);
    }

    private static void bootOfNothing() {
        CHECK.sentence("Is LOG's generation not FLIP's .. Else, if it has entries .. Then it is ready.");
        SensorNode x = Asm.running(4, 64, 8, 64, Asm.NOP, Asm.NOP);
        due("ready at once", x.state(), 3);
        x.go(2);
        repower(x);
        due("ready at once without entries", x.state(), 3);
        due("the first act is an instruction", x.go(1), 1);
        due("COUNT", x.register(35), 1);
        due("no word was written", x.count(1), 0);
    }

    private static void bootOfBuffer() {
        CHECK.sentence("BOOTING: registers to COUNT and RAM are those of the buffer of FLIP's generation, SINCE is 0 (no act).");
        // Every register, RAM's only word, INDEX and SENT are other than 0 in both buffers, and differ.
        int[] words = new int[40];
        for (int i = 1; i < 32; i++) {
            words[i - 1] = Asm.addi(i, i, 100 + i);
        }
        words[31] = Asm.li(17, 1);
        words[32] = Asm.CALL;
        words[33] = Asm.li(11, 0);
        words[34] = Asm.sw(31, 0, 0);
        words[35] = Asm.li(17, 2);
        words[36] = Asm.CALL;
        words[37] = Asm.jal(0, -4 * 37);
        SensorNode x = Asm.running(4, 256, 8, 65536, words);
        int[] saved = new int[36];
        int acts = 36;
        for (int generation = 1; generation <= 4; generation++) {
            x.go(acts);
            due("SINCE before the checkpoint", x.register(36), generation == 1 ? 36 : 38);
            for (int i = 0; i < 36; i++) {
                saved[i] = x.register(i);
            }
            int ram = x.ram(0);
            x.go(CHECKPOINT);
            due("FLIP", x.word(0), generation);
            x.go(2);
            repower(x);
            due("booting has no act", x.count(0) - x.count(1), x.count(2) + generation);
            for (int i = 0; i < 36; i++) {
                due("register " + i + " of generation " + generation, x.register(i), saved[i]);
            }
            due("x31", x.register(31), 131 * generation);
            due("INDEX", x.register(33), generation);
            due("SENT", x.register(34), generation - 1);
            due("RAM", x.ram(0), ram);
            due("RAM of x31", x.ram(0), 131 * generation & 255);
            due("SINCE", x.register(36), 0);
            // The frame is known as sent: SEND, the jump and all before the next SEND are 38 acts.
            acts = 38;
        }
    }

    private static void bootOfOldLog() {
        CHECK.sentence("Is LOG's generation not FLIP's: LOG becomes generation << 16 (an act).");
        for (int n : new int[] {0, 1, 8}) {
            SensorNode x = storer(n, 8, 16);
            // The jump to itself fills up SINCE to 16.
            x.go(1 + 4 * n + (15 - n));
            due("SINCE", x.register(36), 16);
            x.go(BUFFER + 1);
            due("FLIP", x.word(0), 1);
            due("LOG of the old generation", x.word(1), n);
            repower(x);
            due("it boots", x.state(), 2);
            due("one act", x.go(1), 1);
            due("ready", x.state(), 3);
            due("LOG", x.word(1), 1 << 16);
            due("nothing is rolled back", x.count(6), 0);
            for (int i = 0; i < n; i++) {
                due("the word stays", guestWord(x, 16 + i), S);
            }
            due("words written", x.count(1), 4 * n + BUFFER + 1 + 1);
        }
    }

    private static void bootOfEntries() {
        CHECK.sentence("Else, if it has entries: from the last one that counts to the first, the word is written as it was (an act each), then LOG becomes generation << 16 (an act).");
        for (int n = 1; n <= 8; n++) {
            SensorNode x = storer(n, 8, 64);
            x.go(1 + 4 * n);
            repower(x);
            for (int left = n; left > 0; left--) {
                due("it boots", x.state(), 2);
                due("an act", x.go(1), 1);
                for (int i = 0; i < n; i++) {
                    due("word " + i + " of " + n + " at " + left, guestWord(x, 16 + i), i >= left - 1 ? 1000 + i : S);
                }
                due("rolled back", x.count(6), n - left + 1);
                due("LOG stays", x.word(1), n);
            }
            due("LOG is to come", x.state(), 2);
            due("LOG's act", x.go(1), 1);
            due("LOG", x.word(1), 0);
            due("ready", x.state(), 3);
            due("rolled back in all", x.count(6), n);
            due("acts of booting", x.count(0), 1 + 4 * n + n + 1);
            due("words written", x.count(1), 4 * n + n + 1);
        }
    }

    private static void bootOfFullLog() {
        CHECK.sentence("from the last one that counts to the first");
        // 1024 words from the store's end on downwards.
        SensorNode x = Asm.running(4, 8192, 1024, 65536, Asm.lui(5, S + 8192), Asm.sw(5, 5, -4), Asm.addi(5, 5, -4), Asm.jal(0, -8));
        x.go(1 + 6 * 1023 + 4);
        due("LOG", x.word(1), 1024);
        int last = x.words() - 1;
        repower(x);
        due("all but one entry", x.go(1023), 1023);
        due("the first entry's word stands yet", x.word(last), S + 8192);
        due("the second's is back", x.word(last - 1), 0);
        due("LOG stands yet", x.word(1), 1024);
        x.go(1);
        due("the first entry's word is back", x.word(last), 0);
        due("it boots", x.state(), 2);
        x.go(1);
        due("LOG", x.word(1), 0);
        due("ready", x.state(), 3);
        due("rolled back", x.count(6), 1024);
    }

    private static void bootCutAnywhere() {
        CHECK.sentence("CUT at any time between two acts (while it boots)");
        for (int at = 0; at <= 4; at++) {
            SensorNode x = storer(3, 8, 64);
            x.go(1 + 4 * 3);
            repower(x);
            x.go(at);
            repower(x);
            due("it boots behind " + at, x.state(), at < 4 ? 2 : 3);
            due("from the last entry again", x.go(at < 4 ? 4 : 0), at < 4 ? 4 : 0);
            due("ready", x.state(), 3);
            due("rolled back, cut behind " + at, x.count(6), at < 4 ? at + 3 : 3);
            for (int i = 0; i < 3; i++) {
                due("as it was", guestWord(x, 16 + i), 1000 + i);
            }
            due("a cut undoes no instruction of none", x.count(3), 4);
        }
    }

    private static void entriesNotYetCounted() {
        CHECK.sentence("LOG with one entry more (an act each)");
        for (int at = 0; at <= 4; at++) {
            SensorNode x = storer(2, 8, 64);
            // One store is done, of the second some acts.
            x.go(1 + 4 + at);
            repower(x);
            int entries = at < 3 ? 1 : 2;
            due("entries that count", x.word(1), entries);
            due("acts of booting", x.go(entries), entries);
            due("rolled back", x.count(6), entries);
            due("LOG is to come", x.state(), 2);
            x.go(1);
            due("ready", x.state(), 3);
            due("first", guestWord(x, 16), 1000);
            due("second", guestWord(x, 17), 1001);
            due("undone", x.count(3), at < 4 ? 2 : 3);
        }
    }

    private static void checkpointOrder() {
        CHECK.sentence("the words of the buffer of the other parity, in their order (an act each), then FLIP");
        int[] words = new int[40];
        for (int i = 1; i < 32; i++) {
            words[i - 1] = Asm.li(i, 100 + i);
        }
        words[31] = Asm.sw(31, 0, 4);
        words[32] = Asm.sw(30, 0, 0);
        words[33] = Asm.li(17, 2);
        words[34] = Asm.li(11, 0);
        words[35] = Asm.CALL;
        SensorNode x = Asm.running(8, 256, 8, 65536, words);
        x.go(35);
        int second = 3 + 38;
        for (int done = 0; done <= 38; done++) {
            due("state behind " + done, x.state(), done == 0 ? 3 : 4);
            for (int i = 0; i < 38; i++) {
                int want = i < 36 ? x.register(i) : i == 36 ? 130 : 131;
                due("word " + i + " behind " + done, x.word(second + i), i < done ? want : 0);
            }
            due("FLIP", x.word(0), 0);
            due("SINCE", x.register(36), 35);
            x.go(1);
        }
        due("FLIP last but one", x.word(0), 1);
        due("LOG not yet", x.word(1), 0);
        due("state", x.state(), 4);
        x.go(1);
        due("LOG last", x.word(1), 1 << 16);
        due("ready", x.state(), 3);
        due("words written", x.count(1), 40);
        due("acts", x.count(0), 75);
    }

    private static void cutAtFlip() {
        CHECK.sentence("then FLIP (the generation + 1, of 16 bits; SINCE is 0 with that act, and entries of the old generation count no more)");
        for (int done : new int[] {BUFFER - 1, BUFFER, BUFFER + 1, BUFFER + 2}) {
            SensorNode x = storer(2, 8, 16);
            x.go(1 + 8 + 13);
            x.go(done);
            repower(x);
            boolean flipped = done > BUFFER;
            due("COUNT behind " + done, x.register(35), flipped ? 16 : 0);
            due("undone", x.count(3), flipped ? 0 : 16);
            due("checkpoints", x.count(4), flipped ? 1 : 0);
            due("state", x.state(), done == BUFFER + 2 ? 3 : 2);
            x.go(flipped ? BUFFER + 2 - done : 3);
            due("ready", x.state(), 3);
            due("rolled back", x.count(6), flipped ? 0 : 2);
            due("a word", guestWord(x, 17), flipped ? S : 1001);
            due("LOG", x.word(1), flipped ? 1 << 16 : 0);
        }
    }

    private static void sinceWithFlip() {
        CHECK.sentence("SINCE is 0 with that act");
        SensorNode x = storer(0, 8, 16);
        x.go(16 + BUFFER);
        due("before FLIP", x.register(36), 16);
        x.go(1);
        due("with FLIP", x.register(36), 0);
        due("LOG is to come", x.state(), 4);
        due("COUNT stays", x.register(35), 16);
        x.go(1);
        due("behind LOG", x.register(36), 0);
        x.go(1);
        due("the next instruction", x.register(36), 1);
    }

    private static void generationsWrap() {
        CHECK.sentence("0 FLIP: the GENERATION, 0 .. 65535.");
        // A SEND of no bytes and a store: 39 + 3 + 4 + 1 acts for each generation.
        SensorNode x = Asm.running(4, 64, 8, 16, Asm.lui(5, S), Asm.li(17, 2), Asm.CALL, Asm.sw(10, 5, 60), Asm.jal(0, -8));
        int each = CHECKPOINT + 3 + 4 + 1;
        x.go(2);
        int[] stops = {32767, 32768, 65534, 65535, 65536, 65537};
        int generation = 0;
        int last = x.words() - 1;
        for (int stop : stops) {
            for (int left = (stop - generation) * each; left > 0; left -= Math.min(20000, left)) {
                x.go(Math.min(20000, left));
            }
            generation = stop;
            due("FLIP", x.word(0), stop & 65535);
            due("LOG", x.word(1), (stop & 65535) << 16 | 1);
            due("buffer of its parity: SENT", x.word(3 + (stop & 1) * BUFFER + 34), stop - 1);
            due("buffer of the other parity: SENT", x.word(3 + (stop + 1 & 1) * BUFFER + 34), stop - 2);
            repower(x);
            due("it boots", x.state(), 2);
            due("SENT of the buffer", x.register(34), stop - 1);
            x.go(1);
            due("rolled back", x.word(last), stop - 1);
            x.go(1);
            due("ready", x.state(), 3);
            due("LOG is empty", x.word(1), (stop & 65535) << 16);
            // The frame is known as sent: one act; then the store and the jump.
            x.go(1 + 4 + 1);
            due("stored again", x.word(last), stop);
            due("LOG again", x.word(1), (stop & 65535) << 16 | 1);
            due("strays", x.strays(), 0);
        }
        x.go(BUFFER + 1);
        repower(x);
        due("LOG of the generation before", x.word(1), 1 << 16 | 1);
        due("it boots", x.state(), 2);
        x.go(1);
        due("LOG of generation 2 again", x.word(1), 2 << 16);
        due("strays", x.strays(), 0);
        due("checkpoints", x.count(4), 65538);
    }

    private static void intervals() {
        CHECK.sentence("if SINCE is K (16 .. 65536)");
        for (int k : new int[] {16, 17, 65535, 65536}) {
            due("K " + k, new SensorNode().install(4, 4, 8, k, 0), 0);
        }
        for (int k : new int[] {15, 65537, 0, -1, -16, MIN, Integer.MAX_VALUE, 65536 + 16}) {
            due("K " + k, new SensorNode().install(4, 4, 8, k, 0), -1);
        }
    }

    private static void dueAtK() {
        CHECK.sentence("It comes before an instruction: (1) if SINCE is K (16 ..");
        for (int k : new int[] {16, 17, 100}) {
            SensorNode x = storer(0, 8, k);
            for (int round = 0; round < 3; round++) {
                x.go(k - 1);
                due("SINCE of K - 1", x.register(36), k - 1);
                due("the next is an instruction", x.go(1), 1);
                due("SINCE of K", x.register(36), k);
                due("ready", x.state(), 3);
                due("no checkpoint yet", x.count(4), round);
                x.go(1);
                due("then it comes", x.state(), 4);
                due("SINCE still", x.register(36), k);
                x.go(BUFFER + 1);
                due("one more", x.count(4), round + 1);
                due("ready behind it", x.state(), 3);
                due("SINCE of 0", x.register(36), 0);
            }
        }
    }

    private static void dueAtGreatestK() {
        CHECK.sentence("It comes before an instruction: (1) if SINCE is K (.. 65536)");
        SensorNode x = storer(0, 8, 65536);
        for (int i = 0; i < 3; i++) {
            x.go(20000);
        }
        x.go(5535);
        due("SINCE", x.register(36), 65535);
        x.go(1);
        due("SINCE of K", x.register(36), 65536);
        due("no checkpoint yet", x.count(4), 0);
        due("ready", x.state(), 3);
        x.go(1);
        due("then it comes", x.state(), 4);
        x.go(BUFFER + 1);
        due("FLIP", x.word(0), 1);
        due("SINCE of 0", x.register(36), 0);
        due("COUNT", x.word(3 + BUFFER + 35), 65536);
    }

    private static void dueWhatever() {
        CHECK.sentence("(1) if SINCE is K (16 .. 65536), whatever the instruction is");
        int[][] lasts = {
            // x17, x11, the word behind K instructions, the state behind the checkpoint and one more act
            {3, 0, Asm.CALL, 6}, {9, 0, Asm.CALL, 11}, {0, 0, 0, 11}, {0, 0, Asm.load(2, 6, 0, 1), 12}, {0, 0, Asm.load(2, 6, 0, 4), 13},
            {2, 65, Asm.CALL, 14}, {2, 5, Asm.CALL, 13}, {1, 0, Asm.CALL, 3}, {0, 0, Asm.NOP, 3}, {0, 0, Asm.sw(0, 0, 0), 3},
            {2, 0, Asm.CALL, 5}, {0, 0, Asm.sw(0, 5, 64), 5}, {0, 0, Asm.jal(0, 2), 12}
        };
        for (int[] last : lasts) {
            int[] words = new int[17];
            java.util.Arrays.fill(words, Asm.NOP);
            words[0] = Asm.lui(5, S);
            words[1] = Asm.li(17, last[0]);
            words[2] = Asm.li(11, last[1]);
            words[16] = last[2];
            SensorNode x = Asm.running(4, 128, 8, 16, words);
            x.go(16);
            due("ready before " + last[2], x.state(), 3);
            x.go(CHECKPOINT);
            due("a checkpoint before " + last[2], x.count(4), 1);
            due("ready behind it", x.state(), 3);
            due("PC", x.register(32), S + 64);
            x.go(1);
            due("state behind the next act", x.state(), last[3]);
            due("no second checkpoint", x.count(4), 1);
        }
        for (int pc : new int[] {S + 64, S + 4096}) {
            // Sixteen words are the whole store: PC is outside when the checkpoint is due.
            int[] words = new int[16];
            java.util.Arrays.fill(words, Asm.NOP);
            words[15] = Asm.jal(0, pc - S - 60);
            SensorNode x = Asm.running(4, 64, 8, 16, words);
            due("PC outside", x.go(100), 16 + CHECKPOINT + 1);
            due("state", x.state(), 13);
            due("PC of the buffer", x.word(3 + BUFFER + 32), pc);
        }
    }

    private static void sendAtSince() {
        CHECK.sentence("(2) before a SEND that does not trap, if SINCE is above 0");
        SensorNode x = Asm.running(4, 64, 8, 16, Asm.li(17, 2), Asm.CALL, Asm.CALL, Asm.NOP, Asm.CALL, Asm.jal(0, 0));
        x.go(1);
        due("SINCE of 1", x.register(36), 1);
        x.go(1);
        due("a checkpoint", x.state(), 4);
        x.go(BUFFER + 1);
        due("SINCE of 0", x.register(36), 0);
        x.go(1);
        due("SINCE of 0: none, but the SEND", x.state(), 5);
        due("a frame", x.frames(), 1);
        x.go(2);
        due("SINCE behind a SEND", x.register(36), 1);
        x.go(1);
        due("so one comes before the next", x.state(), 4);
        due("no frame yet", x.frames(), 1);
        x.go(BUFFER + 1 + 3 + 1);
        due("SINCE of 2", x.register(36), 2);
        x.go(1);
        due("and one more", x.state(), 4);
        x.go(BUFFER + 1);
        due("checkpoints", x.count(4), 3);
        repower(x);
        due("SINCE of 0 behind on()", x.register(36), 0);
        x.go(1);
        due("no checkpoint", x.state(), 5);
        due("but the frame", x.frames(), 3);
    }

    private static void sendThatTraps() {
        CHECK.sentence("(2) before a SEND that does not trap");
        int[][] cases = {{65, 0, 14}, {-1, 0, 14}, {5, 0, 13}, {1, 4, 13}, {1, -1, 13}};
        for (int[] c : cases) {
            SensorNode x = Asm.running(4, 64, 8, 64, Asm.li(17, 2), Asm.li(11, c[0]), Asm.li(10, c[1]), Asm.CALL);
            due("no checkpoint", x.go(100), 4);
            due("state", x.state(), c[2]);
            due("words written", x.count(1), 0);
            due("frames", x.frames(), 0);
        }
        SensorNode x = Asm.running(4, 64, 8, 64, Asm.li(17, 3), Asm.CALL);
        due("HALT needs none", x.go(100), 2);
        SensorNode y = Asm.running(4, 64, 8, 64, Asm.li(17, 1), Asm.CALL);
        y.go(2);
        due("SAMPLE needs none", y.register(33), 1);
    }

    private static void fullLog() {
        CHECK.sentence("(3) before an instruction that stores to the store and does not trap, if its word has no entry yet and l entries count");
        for (int l : new int[] {8, 9}) {
            SensorNode x = storer(11, l, 64);
            x.go(1 + 4 * (l - 1));
            due("l - 1 entries count", x.word(1), l - 1);
            x.go(1);
            due("no checkpoint before the next store", x.state(), 5);
            x.go(3);
            due("l entries count", x.word(1), l);
            due("no checkpoint so far", x.count(4), 0);
            due("SINCE", x.register(36), l + 1);
            x.go(1);
            due("a checkpoint before the next", x.state(), 4);
            x.go(BUFFER + 1);
            due("LOG", x.word(1), 1 << 16);
            due("PC is at the store", x.word(3 + BUFFER + 32), S + 4 * (l + 1));
            x.go(3);
            due("the first entry again", x.word(3 + 2 * BUFFER), x.words() - 32 + 16 + l);
            due("one entry counts", x.word(1), 1 << 16 | 1);
            due("not yet written", guestWord(x, 16 + l), 1000 + l);
            x.go(1);
            due("written", guestWord(x, 16 + l), S);
            repower(x);
            x.go(2);
            due("only the new generation's is rolled back", x.count(6), 1);
            due("the old one's stay", guestWord(x, 16 + l - 1), S);
        }
    }

    private static void fullGreatestLog() {
        CHECK.sentence("if its word has no entry yet and l entries count (l is .. 1024)");
        SensorNode x = Asm.running(4, 8192, 1024, 65536, Asm.lui(5, S + 8192), Asm.sw(5, 5, -4), Asm.addi(5, 5, -4), Asm.jal(0, -8));
        x.go(1 + 6 * 1022);
        due("1022 entries", x.word(1), 1022);
        x.go(6);
        due("1023 entries", x.word(1), 1023);
        x.go(1);
        due("no checkpoint before the last", x.state(), 5);
        x.go(5);
        due("1024 entries", x.word(1), 1024);
        due("no checkpoint so far", x.count(4), 0);
        x.go(1);
        due("a checkpoint before one more", x.state(), 4);
        x.go(BUFFER + 1 + 4);
        due("one entry", x.word(1), 1 << 16 | 1);
        due("checkpoints", x.count(4), 1);
    }

    private static void fullLogThatNeedsNone() {
        CHECK.sentence("(3) before an instruction that stores to the store and does not trap, if its word has no entry yet");
        int[][] nexts = {
            // the word behind eight entries, the state behind it
            {Asm.sw(0, 5, 64), 3}, {Asm.store(0, 0, 5, 67), 3}, {Asm.store(1, 0, 5, 94), 3}, {Asm.sw(5, 0, 0), 3},
            {Asm.load(2, 6, 5, 96), 3}, {Asm.sw(5, 5, 128), 13}, {Asm.sw(5, 5, 97), 12}, {Asm.store(3, 5, 5, 96), 11}, {Asm.sw(5, 5, -4), 13}
        };
        for (int[] next : nexts) {
            int[] words = storing(8);
            words[9] = next[0];
            SensorNode x = Asm.running(4, 128, 8, 64, words);
            x.go(1 + 4 * 8);
            due("eight entries", x.word(1), 8);
            due("one act", x.go(1), 1);
            due("no checkpoint before " + next[0], x.state(), next[1]);
            due("LOG", x.word(1), 8);
            due("COUNT", x.register(35), next[1] == 3 ? 10 : 9);
        }
        for (int word : new int[] {Asm.sw(0, 5, 96), Asm.store(0, 0, 5, 127), Asm.store(1, 0, 5, 98), Asm.sw(0, 5, 0)}) {
            int[] words = storing(8);
            words[9] = word;
            SensorNode x = Asm.running(4, 128, 8, 64, words);
            x.go(1 + 4 * 8 + 1);
            due("a checkpoint before " + word, x.state(), 4);
        }
    }

    private static void entryOnce() {
        CHECK.sentence("A STORE to a word that has no entry that counts: its entry's number, what it was, LOG with one entry more (an act each). Then the word is written, and the instruction done (one act).");
        int[] words = storing(1);
        words[2] = Asm.sw(0, 5, 64);
        words[3] = Asm.sw(0, 5, 64);
        words[4] = Asm.sw(0, 5, 68);
        SensorNode x = Asm.running(4, 128, 8, 64, words);
        int log = 3 + 2 * BUFFER;
        x.go(1);
        x.go(1);
        due("its entry's number", x.word(log), x.words() - 32 + 16);
        due("not yet what it was", x.word(log + 1), 0);
        due("in an instruction", x.state(), 5);
        x.go(1);
        due("what it was", x.word(log + 1), 1000);
        due("LOG not yet", x.word(1), 0);
        due("in an instruction", x.state(), 5);
        x.go(1);
        due("LOG", x.word(1), 1);
        due("not yet written", guestWord(x, 16), 1000);
        due("not yet done", x.register(35), 1);
        due("in an instruction", x.state(), 5);
        x.go(1);
        due("written", guestWord(x, 16), S);
        due("done", x.register(35), 2);
        due("ready", x.state(), 3);
        x.go(1);
        due("with an entry one act", x.register(35), 3);
        due("written anew", guestWord(x, 16), 0);
        due("the entry stays", x.word(log + 1), 1000);
        x.go(1);
        due("also if it was so", x.register(35), 4);
        due("words written", x.count(1), 6);
        x.go(4);
        due("another word, four acts", x.register(35), 5);
        due("LOG of two", x.word(1), 2);
        due("second entry", x.word(log + 2), x.words() - 32 + 17);
        due("what the second was", x.word(log + 3), 0);
    }

    private static void entryOfBytes() {
        CHECK.sentence("Bytes and halves make their word anew.");
        SensorNode x = Asm.running(4, 128, 8, 64, Asm.lui(5, S), Asm.li(6, -1), Asm.store(0, 6, 5, 67), Asm.store(0, 6, 5, 64),
            Asm.store(1, 6, 5, 66), Asm.store(0, 6, 5, 68), Asm.store(1, 0, 5, 70));
        x.go(2 + 3);
        due("the entry is of the whole word", x.word(3 + 2 * BUFFER), x.words() - 32 + 16);
        x.go(1);
        due("its last byte", guestWord(x, 16), 0xFF000000);
        x.go(1);
        due("its first byte, one act", guestWord(x, 16), 0xFF0000FF);
        x.go(1);
        due("its upper half, one act", guestWord(x, 16), 0xFFFF00FF);
        due("LOG", x.word(1), 1);
        x.go(4);
        due("the next byte is of another word", x.word(1), 2);
        due("that word", guestWord(x, 17), 0xFF);
        x.go(1);
        due("a half of that, one act", x.register(35), 7);
    }

    private static void entryAgain() {
        CHECK.sentence("A STORE to a word that has no entry that counts (no more)");
        // Behind a checkpoint.
        SensorNode x = Asm.running(4, 64, 8, 16, Asm.lui(5, S), Asm.li(17, 2), Asm.sw(5, 5, 60), Asm.CALL, Asm.sw(0, 5, 60));
        x.go(2 + 4 + CHECKPOINT + 3);
        x.go(3);
        due("LOG behind a checkpoint", x.word(1), 1 << 16 | 1);
        due("what it was", x.word(3 + 2 * BUFFER + 1), S);
        due("not yet written", x.word(x.words() - 1), S);
        x.go(1);
        due("written", x.word(x.words() - 1), 0);
        // Behind a roll back.
        SensorNode y = storer(1, 8, 64);
        y.go(1 + 4);
        repower(y);
        y.go(2);
        due("LOG behind booting", y.word(1), 0);
        y.go(1 + 3);
        due("LOG again", y.word(1), 1);
        due("not yet written", guestWord(y, 16), 1000);
        y.go(1);
        due("written", guestWord(y, 16), S);
        // Behind a cut before its entry counted.
        SensorNode z = storer(1, 8, 64);
        z.go(1 + 2);
        repower(z);
        z.go(1 + 3);
        due("LOG behind a cut", z.word(1), 1);
        due("not yet written", guestWord(z, 16), 1000);
    }

    private static SensorNode sender(int length) {
        SensorNode x = Asm.running(4, 64, 8, 16, Asm.li(17, 2), Asm.li(11, length), Asm.CALL, Asm.jal(0, 0));
        x.go(2 + CHECKPOINT);
        return x;
    }

    private static void sendActs() {
        CHECK.sentence("is OUT not SENT + 1: the frame with number SENT + 1 and these bytes is SENT OUT (an act), OUT becomes SENT + 1 (an act). Then the instruction is done (one act): SENT rises by 1, x10 = SENT.");
        for (int length : new int[] {0, 1, 4}) {
            SensorNode x = sender(length);
            x.go(1);
            due("frames", x.frames(), 1);
            due("its number", x.frame(0, 0), 1);
            due("its bytes", x.frame(0, 1), length);
            due("OUT not yet", x.word(2), 0);
            due("state", x.state(), 5);
            x.go(1);
            due("OUT", x.word(2), 1);
            due("SENT not yet", x.register(34), 0);
            due("x10 not yet", x.register(10), 0);
            due("COUNT not yet", x.register(35), 2);
            due("state", x.state(), 5);
            x.go(1);
            due("SENT", x.register(34), 1);
            due("x10", x.register(10), 1);
            due("COUNT", x.register(35), 3);
            due("SINCE", x.register(36), 1);
            due("state", x.state(), 3);
            due("words written: those of the checkpoint and OUT", x.count(1), CHECKPOINT + 1);
        }
    }

    private static void sendAgain() {
        CHECK.sentence("is OUT not SENT + 1: the frame .. is SENT OUT (cut before OUT)");
        SensorNode x = sender(2);
        for (int i = 1; i <= 5; i++) {
            x.go(1);
            due("sent out again", x.frames(), i);
            due("its number", x.frame(i - 1, 0), 1);
            due("cuts before it", x.frame(i - 1, 2), i - 1);
            repower(x);
            due("ready", x.state(), 3);
        }
        x.go(3);
        due("and once more", x.frames(), 6);
        due("SENT", x.register(34), 1);
        due("OUT", x.word(2), 1);
        due("strays", x.strays(), 0);
    }

    private static void sendKnown() {
        CHECK.sentence("is OUT not SENT + 1 (cut behind OUT)");
        for (int acts : new int[] {2, 3, 4}) {
            SensorNode x = sender(2);
            x.go(acts);
            repower(x);
            due("SENT of the buffer", x.register(34), 0);
            due("one act", x.go(1), 1);
            due("it is done", x.register(34), 1);
            due("x10", x.register(10), 1);
            due("COUNT", x.register(35), 3);
            due("ready", x.state(), 3);
            due("not sent out again", x.frames(), 1);
            due("OUT", x.word(2), 1);
        }
        // OUT is 1, and the second frame's number is 2.
        SensorNode y = Asm.running(4, 64, 8, 16, Asm.li(17, 2), Asm.CALL, Asm.CALL, Asm.jal(0, 0));
        y.go(1 + CHECKPOINT + 3 + CHECKPOINT);
        y.go(1);
        due("second frame", y.frame(1, 0), 2);
        due("OUT of one", y.word(2), 1);
        y.go(1);
        due("OUT of two", y.word(2), 2);
        y.go(1);
        due("x10 of two", y.register(10), 2);
    }

    private static void sentBytesOfAct() {
        CHECK.sentence("SEND (x10 an address, x11 how many bytes)");
        // RAM's bytes are those of the buffer, the store's are not rolled back behind a checkpoint.
        SensorNode x = Asm.running(4, 128, 8, 64, Asm.join(Asm.set(5, S + 64), Asm.set(6, 0x44332211),
            Asm.words(Asm.sw(6, 0, 0), Asm.sw(6, 5, 0), Asm.li(17, 2), Asm.li(10, 1), Asm.li(11, 3), Asm.CALL, Asm.addi(10, 5, 1),
            Asm.li(11, 3), Asm.CALL)));
        x.go(5 + 4 + 3 + CHECKPOINT + 1);
        repower(x);
        x.go(3 + 2 + CHECKPOINT + 1);
        int[] numbers = {1, 1, 2};
        for (int i = 0; i < 3; i++) {
            due("number", x.frame(i, 0), numbers[i]);
            for (int k = 0; k < 3; k++) {
                due("frame " + i + " byte " + k, x.heard(i, k), 0x22 + 0x11 * k);
            }
        }
    }

    private static void cutInTheMidst() {
        CHECK.sentence("CUT at any time between two acts: registers, RAM, SINCE and what is being done are gone; the store stays.");
        // Before each act of a run with a store, a checkpoint and a SEND.
        int all = 2 + 4 + CHECKPOINT + 3 + 1;
        for (int n = 0; n <= all; n++) {
            SensorNode x = Asm.running(4, 64, 8, 16, Asm.lui(5, S), Asm.sw(5, 5, 60), Asm.li(17, 2), Asm.CALL, Asm.jal(0, 0));
            due("acts", x.go(n), n);
            int[] store = new int[x.words()];
            for (int w = 0; w < store.length; w++) {
                store[w] = x.word(w);
            }
            int since = x.register(36);
            x.cut();
            due("state", x.state(), 1);
            due("SINCE", x.register(36), 0);
            due("PC", x.register(32), 0);
            due("RAM", x.ram(0), -1);
            due("go()", x.go(5), 0);
            due("undone", x.count(3), since);
            x.on();
            for (int w = 0; w < store.length; w++) {
                due("word " + w + " behind " + n, x.word(w), store[w]);
            }
            boolean flipped = n >= 2 + 4 + BUFFER + 1;
            due("COUNT behind " + n, x.register(35), flipped ? 3 : 0);
            due("x5 behind " + n, x.register(5), flipped ? S : 0);
            boolean boots = n >= 1 + 3 && n < 2 + 4 + CHECKPOINT;
            due("state behind " + n, x.state(), boots ? 2 : 3);
        }
    }

    private static void samplesBeforePower() {
        CHECK.sentence("The samples are told before power comes for the first time.");
        SensorNode x = Asm.node(4, 64, 8, 16, Asm.li(17, 1), Asm.CALL, Asm.CALL);
        due("before", x.sample(5), 1);
        x.plain(20);
        due("plain() is no power", x.sample(6), 2);
        x.go(3);
        due("go() without power is none", x.sample(7), 3);
        x.on();
        due("with power", x.sample(8), -1);
        x.cut();
        due("behind it", x.sample(8), -1);
        x.on();
        x.go(2);
        due("the first", x.register(10), 5);
        x.go(1);
        due("the second", x.register(10), 6);
        repower(x);
        x.go(2);
        due("the first again", x.register(10), 5);
    }

    private static void lookedAtInOrder() {
        CHECK.sentence("Of an instruction all that could need a checkpoint is looked at in the order (1), (2), (3)");
        // SINCE is K before a SEND: one checkpoint serves both.
        int[] words = new int[17];
        java.util.Arrays.fill(words, Asm.NOP);
        words[0] = Asm.li(17, 2);
        words[16] = Asm.CALL;
        SensorNode x = Asm.running(4, 128, 8, 16, words);
        x.go(16 + CHECKPOINT + 1);
        due("the frame behind one checkpoint", x.frames(), 1);
        due("checkpoints", x.count(4), 1);
        // SINCE is K before a store when the log is full.
        words[0] = Asm.lui(5, S);
        for (int i = 0; i < 8; i++) {
            words[1 + i] = Asm.sw(5, 5, 80 + 4 * i);
        }
        words[16] = Asm.sw(5, 5, 112);
        SensorNode y = Asm.running(4, 128, 8, 16, words);
        y.go(1 + 8 * 4 + 7);
        due("eight entries", y.word(1), 8);
        due("SINCE is K", y.register(36), 16);
        y.go(CHECKPOINT);
        due("LOG", y.word(1), 1 << 16);
        y.go(4);
        due("stored behind one checkpoint", guestWord(y, 28), S);
        due("checkpoints", y.count(4), 1);
        // SINCE is K before a SEND that traps: (1) comes all the same.
        words = new int[18];
        java.util.Arrays.fill(words, Asm.NOP);
        words[0] = Asm.li(17, 2);
        words[1] = Asm.li(11, 65);
        words[16] = Asm.CALL;
        SensorNode z = Asm.running(4, 128, 8, 16, words);
        due("acts", z.go(200), 16 + CHECKPOINT + 1);
        due("state", z.state(), 14);
    }

    private static void lookedAtAnew() {
        CHECK.sentence("and behind a checkpoint anew");
        // With eight entries and K not yet reached, a store to a ninth word; cut within the checkpoint and behind it.
        for (int done = 0; done <= CHECKPOINT; done++) {
            SensorNode x = storer(9, 8, 64);
            x.go(1 + 8 * 4 + done);
            repower(x);
            boolean flipped = done > BUFFER;
            x.go(flipped ? CHECKPOINT - done + 4 : 9 + 1 + 8 * 4 + CHECKPOINT + 4);
            due("stored, cut behind " + done, guestWord(x, 24), S);
            due("LOG", x.word(1), 1 << 16 | 1);
            due("checkpoints", x.count(4), 1);
            due("SINCE", x.register(36), 1);
        }
    }

    private static void noBytesNoAddress() {
        CHECK.sentence("A CALL of 2 with 0 bytes looks at no address.");
        for (int at : new int[] {0, 4, -1, S - 1, S + 64, MIN, Integer.MAX_VALUE, 3}) {
            SensorNode x = Asm.running(4, 64, 8, 64, Asm.join(Asm.set(10, at), Asm.words(Asm.li(17, 2), Asm.CALL)));
            x.go(3 + CHECKPOINT + 3);
            due("state, x10 " + at, x.state(), 3);
            due("bytes", x.frame(0, 1), 0);
            due("no byte", x.heard(0, 0), -1);
            due("SENT", x.register(34), 1);
            x.plain(4);
            due("plain bytes", x.plainFrame(0), 0);
            due("no plain byte", x.plainHeard(0, 0), -1);
        }
    }

    private static void thereFromOn() {
        CHECK.sentence("Registers, RAM, INDEX, SENT and COUNT are there from on() on");
        SensorNode x = Asm.node(4, 64, 8, 16, Asm.li(17, 1), Asm.CALL, Asm.sw(17, 0, 0), Asm.lui(5, S), Asm.sw(5, 5, 60), Asm.li(17, 2),
            Asm.li(11, 0), Asm.CALL, Asm.sw(0, 5, 60), Asm.jal(0, 0));
        x.sample(9);
        x.on();
        due("PC at once", x.register(32), S);
        x.go(4 + 4 + 2 + CHECKPOINT + 3 + 4);
        repower(x);
        due("it boots", x.state(), 2);
        due("x10", x.register(10), 9);
        due("x17", x.register(17), 2);
        due("PC", x.register(32), S + 28);
        due("INDEX", x.register(33), 1);
        due("SENT", x.register(34), 0);
        due("COUNT", x.register(35), 7);
        due("SINCE", x.register(36), 0);
        due("RAM", x.ram(0), 1);
        x.go(2);
        due("and stay so while it boots", x.register(35), 7);
    }

    private static void bootingWritesWithGo() {
        CHECK.sentence("what BOOTING writes comes with go()");
        SensorNode x = storer(2, 8, 64);
        x.go(1 + 8);
        int written = x.count(1);
        repower(x);
        due("a word is not yet rolled back", guestWord(x, 17), S);
        due("LOG stays", x.word(1), 2);
        due("nothing is written", x.count(1), written);
        due("go(0) writes nothing", x.go(0), 0);
        due("a word is not yet rolled back", guestWord(x, 17), S);
        x.go(1);
        due("now it is", guestWord(x, 17), 1001);
    }

    private static void nothingUndoneBehindFlip() {
        CHECK.sentence("with power cut in the midst of a checkpoint behind FLIP nothing is undone");
        SensorNode x = storer(3, 8, 16);
        x.go(1 + 12 + 12);
        x.go(BUFFER + 1);
        int pc = x.register(32);
        repower(x);
        due("undone", x.count(3), 0);
        due("COUNT", x.register(35), 16);
        due("PC", x.register(32), pc);
        x.go(1);
        for (int i = 0; i < 3; i++) {
            due("stored", guestWord(x, 16 + i), S);
        }
        due("rolled back", x.count(6), 0);
        due("instructions done", x.count(2), 16);
    }

    private static void logOfFlipWhenReady() {
        CHECK.sentence("LOG's entries are of FLIP's generation whenever the node is ready.");
        for (int cutBehind = 1; cutBehind < 100; cutBehind++) {
            SensorNode x = Asm.running(4, 64, 8, 16, Asm.lui(5, S), Asm.sw(5, 5, 60), Asm.li(17, 2), Asm.CALL, Asm.jal(0, -8));
            x.go(cutBehind);
            repower(x);
            for (int i = 0; i < 60; i++) {
                if (x.state() == 3) {
                    due("LOG's generation", x.word(1) >>> 16, x.word(0));
                }
                x.go(1);
            }
        }
    }

    private static void heardStays() {
        CHECK.sentence("What was sent out stays with those who heard it.");
        SensorNode x = Asm.running(4, 64, 8, 16, Asm.li(17, 2), Asm.li(11, 4), Asm.sw(11, 0, 0), Asm.CALL, Asm.jal(0, 0));
        x.go(3 + CHECKPOINT + 1);
        for (int i = 0; i < 3; i++) {
            due("frames", x.frames(), 1);
            due("number", x.frame(0, 0), 1);
            due("byte", x.heard(0, 0), 4);
            due("cuts before it", x.frame(0, 2), 0);
            x.cut();
            due("frames without power", x.frames(), 1);
            due("byte without power", x.heard(0, 0), 4);
            x.on();
        }
    }
}
