import java.util.ArrayList;

/** Cuts between any two acts: in the end all is as on the plain machine. */
public final class PowerTest {
    private static final int S = Asm.STORE;
    private static final Check CHECK = new Check("PowerTest");

    private PowerTest() {
    }

    public static void main(String[] args) {
        oneCutAnywhere();
        manyCuts();
        fullLog();
        fullLogOfEntries();
        dueBeforeEverything();
        rollingBackTwice();
        generationsWrap();
        highGenerations();
        mostOfAll();
        CHECK.end();
    }

    /** Takes samples, adds them up in the store and in RAM, and sends the sums; then HALT. */
    private static int[] program() {
        return new int[] {
            Asm.lui(5, S), Asm.li(9, 5),
            Asm.li(17, 1), Asm.CALL,
            Asm.load(2, 6, 5, 100), Asm.r(0, 0, 6, 6, 10), Asm.sw(6, 5, 100),
            Asm.load(5, 7, 0, 2), Asm.r(0, 0, 7, 7, 6), Asm.store(1, 7, 0, 2),
            Asm.store(0, 9, 5, 110),
            Asm.addi(10, 5, 99), Asm.li(11, 12), Asm.li(17, 2), Asm.CALL,
            Asm.li(10, 0), Asm.li(11, 8), Asm.CALL,
            Asm.addi(9, 9, -1), Asm.branch(1, 9, 0, -68),
            Asm.li(17, 3), Asm.CALL
        };
    }

    private static SensorNode node() {
        SensorNode x = Asm.node(8, 128, 8, 16, program());
        for (int v : new int[] {3, 1000, -7, 123456}) {
            x.sample(v);
        }
        return x;
    }

    private static int actsInAll() {
        SensorNode x = node();
        x.on();
        return x.go(20000);
    }

    private static void sameAsPlain(String when, SensorNode x) {
        x.plain(20000);
        CHECK.due(when + ": state", x.state(), 6);
        CHECK.due(when + ": plain", x.plainly(35), 6);
        for (int i = 0; i < 35; i++) {
            CHECK.due(when + ": register " + i, x.register(i), x.plainly(i));
        }
        for (int a = 0; a < 8; a++) {
            CHECK.due(when + ": RAM " + a, x.ram(a), x.plainByte(a));
        }
        int guest = x.words() - 32;
        for (int a = 0; a < 128; a++) {
            CHECK.due(when + ": store " + a, x.word(guest + a / 4) >>> 8 * (a % 4) & 255, x.plainByte(S + a));
        }
        CHECK.due(when + ": COUNT", x.register(35), x.count(2) - x.count(3));
        CHECK.due(when + ": strays", x.strays(), 0);
        sameFrames(when, x);
    }

    private static void sameFrames(String when, SensorNode x) {
        ArrayList<Integer> last = new ArrayList<>();
        for (int i = 0; i < x.frames(); i++) {
            int number = x.frame(i, 0);
            if (number == last.size() + 1) {
                last.add(i);
            }
            CHECK.due(when + ": only the newest number comes again", number, last.size());
            CHECK.due(when + ": length", x.frame(i, 1), x.plainFrame(number - 1));
            for (int k = 0; k < x.frame(i, 1); k++) {
                CHECK.due(when + ": byte", x.heard(i, k), x.plainHeard(number - 1, k));
            }
        }
        CHECK.due(when + ": all frames", last.size(), 10);
        CHECK.due(when + ": no more", x.plainFrame(10), -1);
    }

    private static void oneCutAnywhere() {
        int all = actsInAll();
        CHECK.holds("acts in all", all > 500 && all < 5000);
        for (int n = 0; n < all; n++) {
            SensorNode x = node();
            x.on();
            CHECK.due("go to the cut", x.go(n), n);
            x.cut();
            x.on();
            x.go(20000);
            sameAsPlain("cut behind " + n, x);
        }
    }

    private static void manyCuts() {
        for (int step = 95; step < 160; step++) {
            SensorNode x = node();
            for (int i = 0; i < 100; i++) {
                x.on();
                if (x.go(step) < step) {
                    break;
                }
                x.cut();
            }
            sameAsPlain("cuts each " + step, x);
        }
    }

    private static void fullLog() {
        // Stores to nine words, the first of them twice: a checkpoint only before the ninth.
        int[] words = new int[13];
        words[0] = Asm.lui(5, S);
        for (int i = 0; i < 8; i++) {
            words[1 + i] = Asm.sw(5, 5, 64 + 4 * i);
        }
        words[9] = Asm.sw(0, 5, 64);
        words[10] = Asm.sw(5, 0, 0);
        words[11] = Asm.store(0, 5, 5, 99);
        words[12] = Asm.jal(0, 0);
        SensorNode x = Asm.node(4, 128, 8, 100, words);
        x.on();
        x.go(1 + 8 * 4);
        CHECK.due("eight entries", x.word(1), 8);
        x.go(2);
        CHECK.due("a word with an entry, and RAM, need none", x.count(4), 0);
        CHECK.due("done", x.register(35), 11);
        x.go(1);
        CHECK.due("then a checkpoint", x.state(), 4);
        CHECK.due("the entries still count", x.word(1), 8);
        x.go(38);
        CHECK.due("it was one", x.count(4), 1);
        CHECK.due("LOG", x.word(1), 1 << 16);
        CHECK.due("PC in the buffer", x.word(3 + 37 + 32), S + 44);
        x.go(4);
        CHECK.due("one entry", x.word(1), 1 << 16 | 1);
        CHECK.due("its number", x.word(3 + 74), x.words() - 32 + 24);
        CHECK.due("SINCE", x.register(36), 1);
    }

    private static void fullLogOfEntries() {
        // A store that traps needs no checkpoint, even if the log is full.
        int[] words = new int[10];
        words[0] = Asm.lui(5, S);
        for (int i = 0; i < 8; i++) {
            words[1 + i] = Asm.sw(5, 5, 64 + 4 * i);
        }
        words[9] = Asm.sw(5, 5, 128);
        SensorNode x = Asm.node(4, 128, 8, 100, words);
        x.on();
        CHECK.due("acts", x.go(500), 1 + 8 * 4 + 1);
        CHECK.due("trap", x.state(), 13);
        CHECK.due("checkpoints", x.count(4), 0);
        SensorNode y = Asm.node(4, 128, 9, 100, words);
        y.on();
        y.go(500);
        CHECK.due("nine entries may count", y.word(1), 8);
    }

    private static void dueBeforeEverything() {
        // K instructions, then HALT, a trap of a word, of PC, a SEND that traps: the checkpoint comes first.
        int[] lasts = {Asm.CALL, 0, Asm.load(2, 6, 0, 1)};
        int[] states = {6, 11, 12};
        for (int i = 0; i < lasts.length; i++) {
            int[] words = new int[17];
            java.util.Arrays.fill(words, Asm.NOP);
            words[0] = Asm.li(17, 3);
            words[16] = lasts[i];
            SensorNode x = Asm.node(4, 128, 8, 16, words);
            x.on();
            x.go(16);
            CHECK.due("ready", x.state(), 3);
            CHECK.due("SINCE is K", x.register(36), 16);
            CHECK.due("checkpoint and ending", x.go(100), 40);
            CHECK.due("ended", x.state(), states[i]);
            CHECK.due("checkpoints", x.count(4), 1);
            x.cut();
            x.on();
            CHECK.due("behind the checkpoint", x.register(35), 16);
            CHECK.due("ends at once", x.go(100), 1);
        }
        int[] words = new int[16];
        java.util.Arrays.fill(words, Asm.NOP);
        SensorNode x = Asm.node(4, 64, 8, 16, words);
        x.on();
        CHECK.due("PC outside behind K", x.go(100), 16 + 39 + 1);
        CHECK.due("PC outside", x.state(), 13);
        SensorNode y = Asm.node(4, 64, 8, 17, words);
        y.on();
        CHECK.due("K is not yet reached", y.go(100), 16 + 1);
    }

    private static void rollingBackTwice() {
        // Cut in the midst of rolling back: it begins again with the last entry.
        SensorNode x = Asm.node(4, 128, 8, 100, Asm.lui(5, S), Asm.sw(5, 5, 64), Asm.sw(5, 5, 68), Asm.sw(5, 5, 72), Asm.jal(0, 0));
        int guest = x.words() - 32;
        x.on();
        x.go(13);
        CHECK.due("three entries", x.word(1), 3);
        x.cut();
        x.on();
        x.go(1);
        CHECK.due("the last first", x.word(guest + 18), 0);
        CHECK.due("not the second", x.word(guest + 17), S);
        x.go(1);
        CHECK.due("then the second", x.word(guest + 17), 0);
        CHECK.due("LOG stays meanwhile", x.word(1), 3);
        x.cut();
        x.on();
        CHECK.due("it boots", x.state(), 2);
        x.go(3);
        CHECK.due("still", x.state(), 2);
        CHECK.due("all are back", x.word(guest + 16), 0);
        x.go(1);
        CHECK.due("LOG is empty", x.word(1), 0);
        CHECK.due("ready", x.state(), 3);
        CHECK.due("words rolled back", x.count(6), 5);
    }

    private static void generationsWrap() {
        // A SEND of no bytes and a jump: 39 + 3 + 1 acts for each generation.
        SensorNode x = Asm.node(4, 64, 8, 16, Asm.li(17, 2), Asm.CALL, Asm.jal(0, -4));
        x.on();
        int target = 1 + 65536 * 43;
        int done = 0;
        while (done < target - 43) {
            done += x.go(Math.min(20000, target - 43 - done));
        }
        CHECK.due("generation 65535", x.word(0), 65535);
        CHECK.due("LOG of it", x.word(1), 65535 << 16);
        x.go(38);
        CHECK.due("FLIP wraps", x.word(0), 0);
        CHECK.due("LOG of the one before", x.word(1), 65535 << 16);
        x.cut();
        x.on();
        CHECK.due("it boots", x.state(), 2);
        CHECK.due("no stray", x.strays(), 0);
        CHECK.due("COUNT", x.register(35), 1 + 2 * 65535);
        x.go(1);
        CHECK.due("LOG", x.word(1), 0);
        x.go(3);
        CHECK.due("frames", x.frames(), 65536);
        CHECK.due("OUT", x.word(2), 65536);
        CHECK.due("checkpoints", x.count(4), 65536);
        x.go(1 + 39);
        CHECK.due("generation 1 again", x.word(0), 1);
    }

    private static void highGenerations() {
        // As above, with a store: 39 + 3 + 4 + 1 acts. LOG is below 0 from generation 32768 on.
        SensorNode x = Asm.node(4, 64, 8, 16, Asm.lui(5, S), Asm.li(17, 2), Asm.CALL, Asm.sw(10, 5, 60), Asm.jal(0, -8));
        x.on();
        int target = 2 + 40000 * 47;
        int done = 0;
        while (done < target) {
            done += x.go(Math.min(20000, target - done));
        }
        int last = x.words() - 1;
        CHECK.due("generation", x.word(0), 40000);
        CHECK.due("LOG", x.word(1), 40000 << 16 | 1);
        CHECK.due("stored", x.word(last), 40000);
        x.cut();
        x.on();
        CHECK.due("it boots", x.state(), 2);
        x.go(1);
        CHECK.due("rolled back", x.word(last), 39999);
        CHECK.due("one word", x.count(6), 1);
        CHECK.due("LOG is to come", x.state(), 2);
        x.go(1);
        CHECK.due("LOG is empty", x.word(1), 40000 << 16);
        CHECK.due("strays", x.strays(), 0);
    }

    private static void mostOfAll() {
        // 1025 words of the largest store from its end downwards, each also in RAM: at the last the log is full.
        SensorNode x = Asm.node(4096, 8192, 1024, 65536, Asm.lui(5, S + 8192), Asm.lui(6, 4096), Asm.li(7, 1025),
            Asm.sw(7, 5, -4), Asm.addi(5, 5, -4), Asm.addi(6, 6, -4), Asm.addi(7, 7, -1), Asm.branch(0, 6, 0, 12),
            Asm.sw(7, 6, 0), Asm.jal(0, -24), Asm.jal(0, -28));
        int first = x.words() - 2048;
        x.on();
        x.go(3 + 1023 * 10 + 4);
        CHECK.due("all entries count", x.word(1), 1024);
        CHECK.due("the last entry", x.word(first - 2), first + 1024);
        CHECK.due("the greatest word", x.word(first + 2047), 1025);
        CHECK.due("the last byte of RAM", x.ram(4092), 0);
        CHECK.due("a word of RAM", x.ram(4088) | x.ram(4089) << 8, 1023);
        x.go(5);
        CHECK.due("no checkpoint yet", x.state(), 3);
        x.go(1060);
        CHECK.due("a checkpoint of 1060 words", x.word(0), 0);
        x.go(1);
        CHECK.due("FLIP", x.word(0), 1);
        CHECK.due("RAM in the buffer", x.word(3 + 1060 + 36 + 1022), 1023);
        x.go(1 + 3);
        CHECK.due("an entry again", x.word(1), 1 << 16 | 1);
        x.cut();
        x.on();
        x.go(2);
        CHECK.due("RAM is back", x.ram(4088) | x.ram(4089) << 8, 1023);
        CHECK.due("the stores stay", x.word(first + 2047), 1025);
        CHECK.due("strays", x.strays(), 0);
    }
}
