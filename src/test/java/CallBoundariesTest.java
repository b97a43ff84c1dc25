/** The promises 1 to 23: a test for each sentence that names a boundary. */
public final class CallBoundariesTest {
    private static final int S = Asm.STORE;
    private static final int MIN = Integer.MIN_VALUE;
    private static final int MAX = Integer.MAX_VALUE;
    private static final Check CHECK = new Check("CallBoundariesTest");
    // With r 4: 37 words, FLIP and LOG.
    private static final int CHECKPOINT = 39;

    private CallBoundariesTest() {
    }

    public static void main(String[] args) {
        nothingInstalled();
        feedOrder();
        feedMost();
        feedMostInAll();
        endFirst();
        endRefused();
        installBytes();
        installZeroBehind();
        installUsesUp();
        installZeroes();
        installNew();
        installOrder();
        installRefused();
        samples();
        samplesRefused();
        onRefused();
        cutRefused();
        goNumbers();
        goFewer();
        goSplit();
        states();
        registers();
        ram();
        words();
        word();
        frames();
        framesKept();
        frameNumbers();
        frameCuts();
        heard();
        heardOfEach();
        countNumbers();
        countActs();
        countWords();
        countUndone();
        countCuts();
        countRolledBack();
        plainNumbers();
        plainFewer();
        plainStays();
        plainly();
        plainByte();
        plainFrame();
        plainHeard();
        strays();
        CHECK.end();
    }

    private static void due(String call, long got, long want) {
        CHECK.due(call, got, want);
    }

    private static void due(String call, boolean got, boolean want) {
        CHECK.due(call, got, want);
    }

    /** Sends the first so many bytes of the store again and again; behind the program no byte of the store is 0. */
    private static int[] sender(int bytes) {
        int[] words = new int[32];
        for (int i = 0; i < 32; i++) {
            words[i] = 0x84634221 + 0x01010101 * i;
        }
        int[] program = {Asm.li(17, 2), Asm.lui(10, S), Asm.li(11, bytes), Asm.CALL, Asm.lui(10, S), Asm.jal(0, -8)};
        System.arraycopy(program, 0, words, 0, program.length);
        return words;
    }

    private static int byteOf(int[] words, int k) {
        return words[k / 4] >>> 8 * (k % 4) & 255;
    }

    /** Power is on, and the first frame goes out with the next act. */
    private static SensorNode sending(int bytes) {
        SensorNode x = Asm.running(4, 128, 8, 16, sender(bytes));
        x.go(3 + CHECKPOINT);
        return x;
    }

    private static void nothingInstalled() {
        CHECK.sentence("Nothing is installed.");
        SensorNode x = new SensorNode();
        for (int i = 0; i < 3; i++) {
            due("state()", x.state(), 0);
            due("on()", x.on(), false);
            due("cut()", x.cut(), false);
            due("go(0)", x.go(0), 0);
            due("go(20000)", x.go(20000), 0);
            due("go(20001)", x.go(20001), -1);
            due("sample(0)", x.sample(0), -1);
            due("words()", x.words(), 0);
            due("word(0)", x.word(0), 0);
            due("word(35)", x.word(35), 0);
            due("register(0)", x.register(0), 0);
            due("register(36)", x.register(36), 0);
            due("ram(0)", x.ram(0), -1);
            due("frames()", x.frames(), 0);
            due("frame(0, 0)", x.frame(0, 0), -1);
            due("heard(0, 0)", x.heard(0, 0), -1);
            for (int what = -1; what < 8; what++) {
                due("count(" + what + ")", x.count(what), -1);
            }
            due("plain(0)", x.plain(0), -1);
            due("plainly(32)", x.plainly(32), 0);
            due("plainly(35)", x.plainly(35), 0);
            due("plainByte(0)", x.plainByte(0), -1);
            due("plainByte(S)", x.plainByte(S), -1);
            due("plainFrame(0)", x.plainFrame(0), -1);
            due("plainHeard(0, 0)", x.plainHeard(0, 0), -1);
            due("strays()", x.strays(), 0);
        }
        due("the tray is empty", x.end(1), false);
        due("empty, and so it stays", x.end(0), true);
        due("the first feed", x.feed(1, 2, 3, 4, 5), 20);
    }

    private static void feedOrder() {
        CHECK.sentence("Feeds twenty bytes, the highest of a first: how many are in the tray");
        SensorNode x = new SensorNode();
        due("twenty", x.feed(0x80818283, 0x84858687, 0x88898A8B, 0x8C8D8E8F, 0x90919293), 20);
        due("forty", x.feed(-1, 0, -1, 0, -1), 40);
        due("installed", x.install(4, 40, 8, 16, 0), 0);
        x.plain(0);
        for (int i = 0; i < 20; i++) {
            due("byte " + i, x.plainByte(S + i), 0x80 + i);
            due("byte " + (20 + i), x.plainByte(S + 20 + i), (i / 4 & 1) == 0 ? 255 : 0);
        }
        due("the tray begins anew", x.feed(0, 0, 0, 0, 0), 20);
    }

    private static void feedMost() {
        CHECK.sentence("-1 if there would be more than 8200");
        SensorNode x = new SensorNode();
        for (int i = 1; i <= 410; i++) {
            due("feed " + i, x.feed(i, i, i, i, i), 20 * i);
        }
        due("8220", x.feed(7, 7, 7, 7, 7), -1);
        due("a refused one leaves 8200", x.end(8201), false);
        due("all of them", x.end(8200), true);
        due("8181 and 20", x.end(8181) ? x.feed(7, 7, 7, 7, 7) : 0, -1);
        due("a refused one leaves 8181", x.end(8182), false);
        due("8180 and 20", x.end(8180) ? x.feed(7, 7, 7, 7, 7) : 0, 8200);
        due("8192 of them", x.end(8192), true);
        due("8192 and 20", x.feed(9, 9, 9, 9, 9), -1);
        due("installed", x.install(4, 8192, 8, 16, 0), 0);
        due("the word before", x.word(x.words() - 4), Integer.reverseBytes(409));
        due("a word of the last feed", x.word(x.words() - 3), 7 << 24);
        due("the last word", x.word(x.words() - 1), 7 << 24);
    }

    private static void feedMostInAll() {
        CHECK.sentence("or more than 65536 in all");
        // 65520 bytes are 3276 feeds; no object is used so long, but the limit is told.
        SensorNode x = new SensorNode();
        for (int i = 1; i <= 3276; i++) {
            due("feed " + i, x.feed(1, 2, 3, 4, 5), 20);
            x.end(0);
        }
        due("65540", x.feed(1, 2, 3, 4, 5), -1);
        due("the tray is empty still", x.end(1), false);
    }

    private static void endFirst() {
        CHECK.sentence("Only the first n bytes of the tray count");
        for (int n = 0; n <= 20; n++) {
            SensorNode x = new SensorNode();
            x.feed(0x11111111, 0x11111111, 0x11111111, 0x11111111, 0x11111111);
            due("end(" + n + ")", x.end(n), true);
            due("as many bytes", x.end(n + 1), false);
            due("install", x.install(4, 20, 8, 16, 0), 0);
            x.plain(0);
            for (int i = 0; i < 20; i++) {
                due("byte " + i + " of " + n, x.plainByte(S + i), i < n ? 0x11 : 0);
            }
        }
        SensorNode x = new SensorNode();
        x.feed(0x11111111, 0x11111111, 0x11111111, 0x11111111, 0x11111111);
        x.end(3);
        due("fed behind them", x.feed(0x22222222, 0x22222222, 0x22222222, 0x22222222, 0x22222222), 23);
        x.install(4, 24, 8, 16, 0);
        x.plain(0);
        for (int i = 0; i < 24; i++) {
            due("byte " + i + " behind end(3)", x.plainByte(S + i), i < 3 ? 0x11 : i < 23 ? 0x22 : 0);
        }
    }

    private static void endRefused() {
        CHECK.sentence("false if n is below 0 or more than it has");
        SensorNode x = new SensorNode();
        due("0 of 0", x.end(0), true);
        due("1 of 0", x.end(1), false);
        due("-1 of 0", x.end(-1), false);
        x.feed(1, 2, 3, 4, 5);
        for (int n : new int[] {21, 22, 8200, -1, MIN, MAX}) {
            due("end(" + n + ")", x.end(n), false);
        }
        due("a refused one leaves all", x.end(20), true);
        due("19", x.end(19), true);
        due("20 of 19", x.end(20), false);
        due("0", x.end(0), true);
        due("1 of 0 again", x.end(1), false);
    }

    private static void installBytes() {
        CHECK.sentence("-2 the tray has more than g bytes");
        for (int g : new int[] {4, 8, 16, 20}) {
            for (int n = g - 1; n <= g + 1 && n <= 20; n++) {
                SensorNode x = new SensorNode();
                x.feed(-1, -1, -1, -1, -1);
                x.end(n);
                due(n + " bytes in " + g, x.install(4, g, 8, 16, 0), n > g ? -2 : 0);
                due("state", x.state(), n > g ? 0 : 1);
            }
        }
        SensorNode x = new SensorNode();
        for (int i = 0; i < 410; i++) {
            x.feed(1, 1, 1, 1, 1);
        }
        x.end(8193);
        due("8193 bytes in 8192", x.install(4, 8192, 8, 16, 0), -2);
        due("no bytes in 4", x.install(4, 4, 8, 16, 0), 0);
    }

    private static void installZeroBehind() {
        CHECK.sentence("are the guest's part of the store (0 behind them)");
        SensorNode x = new SensorNode();
        x.feed(-1, -1, -1, -1, -1);
        x.feed(-1, -1, -1, -1, -1);
        due("first", x.install(4, 40, 8, 16, 0), 0);
        x.feed(-1, -1, -1, -1, -1);
        x.end(5);
        due("second", x.install(4, 40, 8, 16, 0), 0);
        int guest = x.words() - 10;
        due("four bytes", x.word(guest), -1);
        due("the fifth", x.word(guest + 1), 255);
        x.plain(0);
        for (int i = 2; i < 10; i++) {
            due("0 behind them", x.word(guest + i), 0);
            due("plain, 0 behind them", x.plainByte(S + 4 * i), 0);
        }
        due("none at all", x.install(4, 40, 8, 16, 0), 0);
        x.plain(0);
        due("0 at once", x.word(guest), 0);
        due("plain, 0 at once", x.plainByte(S), 0);
    }

    private static void installUsesUp() {
        CHECK.sentence("the tray's bytes, used up whatever it answers");
        int[][] calls = {{4, 20, 0}, {3, 20, -1}, {4, 16, -2}};
        for (int[] c : calls) {
            SensorNode x = new SensorNode();
            x.feed(-1, -1, -1, -1, -1);
            due("install(" + c[0] + ", " + c[1] + ")", x.install(c[0], c[1], 8, 16, 0), c[2]);
            due("nothing is left", x.end(1), false);
            due("empty", x.end(0), true);
            due("the next has no bytes", x.install(4, 4, 8, 16, 0), 0);
            due("so its word is 0", x.word(x.words() - 1), 0);
        }
    }

    private static void installZeroes() {
        CHECK.sentence("FLIP, LOG, OUT and all else of the store are 0, but PC in the first buffer");
        for (int[] size : new int[][] {{4, 4, 8}, {4096, 8192, 1024}, {64, 128, 10}}) {
            for (int pc : new int[] {0, 1, -1, S, MIN, MAX}) {
                SensorNode x = new SensorNode();
                x.install(size[0], size[1], size[2], 16, pc);
                for (int w = 0; w < x.words(); w++) {
                    due("word " + w, x.word(w), w == 35 ? pc : 0);
                }
                x.on();
                due("PC", x.register(32), pc);
            }
        }
    }

    private static void installNew() {
        CHECK.sentence("A new node: .. no samples, no power: 0.");
        // A larger node that sent, stored, sampled and was cut, then a smaller one.
        SensorNode x = Asm.node(64, 256, 16, 16, Asm.lui(5, S), Asm.li(17, 1), Asm.CALL, Asm.sw(10, 5, 252), Asm.sw(10, 0, 60),
            Asm.li(17, 2), Asm.li(10, 0), Asm.li(11, 64), Asm.CALL, Asm.jal(0, -32));
        x.sample(77);
        x.on();
        x.go(400);
        x.cut();
        x.on();
        x.go(50);
        x.plain(200);
        CHECK.holds("it was in use", x.frames() > 0 && x.count(4) > 1 && x.count(5) > 0 && x.plainly(34) > 0);
        due("with power on", x.install(4, 8, 8, 16, 4), 0);
        due("no power", x.state(), 1);
        due("no RAM", x.ram(0), -1);
        due("words", x.words(), 3 + 2 * 37 + 16 + 2);
        for (int w = -2; w < 400; w++) {
            due("word " + w, x.word(w), w == 35 ? 4 : 0);
        }
        for (int what = 0; what < 7; what++) {
            due("count(" + what + ")", x.count(what), 0);
        }
        due("frames", x.frames(), 0);
        due("frame", x.frame(0, 0), -1);
        due("heard", x.heard(0, 0), -1);
        due("strays", x.strays(), 0);
        due("plainly", x.plainly(17), 0);
        due("no samples", x.sample(5), 1);
        x.on();
        for (int i = 0; i < 37; i++) {
            due("register " + i, x.register(i), i == 32 ? 4 : 0);
        }
        due("RAM", x.ram(3), 0);
        due("no more RAM", x.ram(4), -1);
        // The smaller node's samples are its own, and the store's words of the old one have no entries.
        Asm.feed(x, Asm.lui(5, S), Asm.li(17, 1), Asm.CALL, Asm.sw(10, 5, 252));
        x.install(64, 256, 16, 16, S);
        x.on();
        x.go(3);
        due("no sample", x.register(10), 0);
        x.go(1);
        due("an entry is needed anew", x.state(), 5);
    }

    private static void installOrder() {
        CHECK.sentence("First that holds: -1 no such r, g, l, or k; -2 the tray has more than g bytes.");
        int[][] wrong = {{3, 16, 8, 16}, {4, 15, 8, 16}, {4, 16, 7, 16}, {4, 16, 8, 15}, {4, 0, 8, 16}, {4100, 8196, 1025, 65537}};
        for (int[] w : wrong) {
            SensorNode x = new SensorNode();
            x.feed(-1, -1, -1, -1, -1);
            due("both hold", x.install(w[0], w[1], w[2], w[3], 0), -1);
        }
        SensorNode x = new SensorNode();
        x.feed(-1, -1, -1, -1, -1);
        due("only the second", x.install(4, 16, 8, 16, 0), -2);
    }

    private static void installRefused() {
        CHECK.sentence("A new node: .. 0. (A refused install() makes none.)");
        SensorNode x = Asm.node(4, 64, 8, 16, Asm.li(17, 2), Asm.li(11, 1), Asm.CALL, Asm.jal(0, 0));
        x.sample(5);
        x.on();
        x.go(2 + CHECKPOINT + 2);
        x.plain(3);
        for (int round = 0; round < 2; round++) {
            x.feed(-1, -1, -1, -1, -1);
            due("refused", x.install(round == 0 ? 3 : 4, 4, 8, 16, 0), round == 0 ? -1 : -2);
            due("state", x.state(), 5);
            due("words", x.words(), 3 + 74 + 16 + 16);
            due("FLIP", x.word(0), 1);
            due("x17", x.register(17), 2);
            due("frames", x.frames(), 1);
            due("acts", x.count(0), 2 + CHECKPOINT + 2);
            due("plain", x.plainly(17), 2);
            due("plain frames", x.plainFrame(0), 1);
            due("the power was on", x.sample(5), -1);
        }
        due("it goes on", x.go(1), 1);
        due("the instruction is done", x.register(34), 1);
    }

    private static void samples() {
        CHECK.sentence("One more sample: how many; -1 .. or there are 1000.");
        SensorNode x = Asm.node(4, 64, 8, 65536, Asm.li(17, 1), Asm.CALL, Asm.jal(0, -4));
        for (int i = 1; i <= 1000; i++) {
            due("sample " + i, x.sample(i == 1000 ? MIN : i), i);
        }
        due("sample 1001", x.sample(1), -1);
        due("sample 1002", x.sample(1), -1);
        x.plain(2 * 999);
        due("the last but one", x.plainly(10), 999);
        x.plain(2 * 1000);
        due("the last", x.plainly(10), MIN);
        x.plain(2 * 1001);
        due("the refused one", x.plainly(10), 0);
        due("INDEX", x.plainly(33), 1001);
    }

    private static void samplesRefused() {
        CHECK.sentence("-1 nothing is installed, the power was on since");
        SensorNode x = new SensorNode();
        due("nothing is installed", x.sample(1), -1);
        x.install(3, 4, 8, 16, 0);
        due("nothing yet", x.sample(1), -1);
        x.install(4, 4, 8, 16, 0);
        due("now", x.sample(1), 1);
        due("the refused ones are none", x.sample(1), 2);
        x.on();
        due("the power is on", x.sample(1), -1);
        x.go(5);
        due("it has ended", x.sample(1), -1);
        x.cut();
        due("the power was on", x.sample(1), -1);
        x.install(5, 4, 8, 16, 0);
        due("a refused install() is no new node", x.sample(1), -1);
        x.install(4, 4, 8, 16, 0);
        due("a new one is", x.sample(1), 1);
    }

    private static void onRefused() {
        CHECK.sentence("Power comes: true; false if it is there, or nothing is installed.");
        SensorNode x = new SensorNode();
        due("nothing is installed", x.on(), false);
        x.install(4, 6, 8, 16, 0);
        due("nothing still", x.on(), false);
        Asm.feed(x, Asm.NOP, Asm.NOP);
        x.install(4, 8, 8, 16, S);
        due("power comes", x.on(), true);
        due("it is there", x.on(), false);
        x.go(1);
        due("it is there, in use", x.on(), false);
        due("a refused one changes nothing", x.register(35), 1);
        x.go(5);
        due("state", x.state(), 13);
        due("it is there, the guest ended", x.on(), false);
        due("state still", x.state(), 13);
        due("cut", x.cut(), true);
        due("power comes again", x.on(), true);
        due("ready", x.state(), 3);
    }

    private static void cutRefused() {
        CHECK.sentence("Power is cut: true; false if there is none.");
        SensorNode x = new SensorNode();
        due("nothing is installed", x.cut(), false);
        x.install(4, 4, 8, 16, S);
        due("none yet", x.cut(), false);
        due("cuts", x.count(5), 0);
        x.on();
        due("cut", x.cut(), true);
        due("none any more", x.cut(), false);
        due("cuts of one", x.count(5), 1);
        x.on();
        x.go(3);
        due("state", x.state(), 11);
        due("cut behind the end", x.cut(), true);
        due("no power", x.state(), 1);
        x.on();
        x.install(4, 4, 8, 16, S);
        due("a new node has none", x.cut(), false);
    }

    private static void goNumbers() {
        CHECK.sentence("Does at most n acts (0 .. 20000): how many were done .. -1 for another n.");
        SensorNode x = Asm.running(4, 64, 8, 65536, Asm.jal(0, 0));
        due("go(0)", x.go(0), 0);
        due("COUNT", x.register(35), 0);
        due("go(1)", x.go(1), 1);
        due("go(20000)", x.go(20000), 20000);
        due("COUNT of 20001", x.register(35), 20001);
        for (int n : new int[] {-1, 20001, MIN, MAX, -20000, 40000}) {
            due("go(" + n + ")", x.go(n), -1);
        }
        due("a refused one does nothing", x.register(35), 20001);
        due("acts", x.count(0), 20001);
        due("go(19999)", x.go(19999), 19999);
    }

    private static void goFewer() {
        CHECK.sentence("(fewer if the guest ended, or without power)");
        SensorNode x = Asm.node(4, 64, 8, 16, Asm.NOP, Asm.NOP, 0);
        due("without power", x.go(20000), 0);
        due("acts", x.count(0), 0);
        due("-1 without power too", x.go(-1), -1);
        x.on();
        due("as many as there are", x.go(3), 3);
        due("state", x.state(), 11);
        due("no more", x.go(3), 0);
        due("-1 behind the end too", x.go(20001), -1);
        x.cut();
        x.on();
        due("fewer", x.go(4), 3);
        x.cut();
        x.on();
        due("not yet ended", x.go(2), 2);
        due("state", x.state(), 3);
        due("the ending alone", x.go(20000), 1);
        x.cut();
        due("cut", x.go(20000), 0);
    }

    private static void goSplit() {
        CHECK.sentence("Does at most n acts (any run of acts may be split among calls)");
        int[] words = {Asm.lui(5, S), Asm.sw(5, 5, 60), Asm.li(17, 2), Asm.CALL, Asm.store(0, 17, 5, 60), Asm.jal(0, -8)};
        SensorNode x = Asm.running(4, 64, 8, 16, words);
        for (int n = 0; n < 120; n++) {
            SensorNode y = Asm.running(4, 64, 8, 16, words);
            due("at once", y.go(n), n);
            due("state of " + n, x.state(), y.state());
            due("SINCE of " + n, x.register(36), y.register(36));
            due("words written of " + n, x.count(1), y.count(1));
            due("frames of " + n, x.frames(), y.frames());
            for (int w = 0; w < y.words(); w++) {
                due("word " + w + " of " + n, x.word(w), y.word(w));
            }
            x.go(1);
        }
    }

    private static void states() {
        CHECK.sentence("2 it boots (an act of that is to come), 3 ready (behind on() too, if booting has no act), 4 in a checkpoint (an act of it was done, one is to come), 5 in an instruction (likewise), 6 ended by HALT, 10 and the trap: ended by that.");
        SensorNode x = new SensorNode();
        due("nothing is installed", x.state(), 0);
        Asm.feed(x, Asm.lui(5, S), Asm.sw(5, 5, 60), Asm.li(17, 2), Asm.CALL, Asm.li(17, 3), Asm.CALL);
        due("a tray is no node", x.state(), 0);
        x.install(4, 64, 8, 16, S);
        due("no power", x.state(), 1);
        x.on();
        int[] runs = {
            // how many acts leave this state
            2, 3, 3, 5, 2, 3, 38, 4, 1, 3, 2, 5, 2, 3, 1, 6
        };
        for (int i = 0; i < runs.length; i += 2) {
            for (int n = 0; n < runs[i]; n++) {
                due("state, part " + i + " act " + n, x.state(), runs[i + 1]);
                x.go(1);
            }
        }
        due("it stays ended", x.state(), 6);
        due("COUNT", x.register(35), 5);
        x.cut();
        due("no power again", x.state(), 1);
        x.on();
        due("ready", x.state(), 3);
        int[][] traps = {{0, 11}, {Asm.load(2, 6, 0, 2), 12}, {Asm.load(2, 6, 0, 4), 13}};
        for (int[] t : traps) {
            SensorNode y = Asm.running(4, 64, 8, 16, t[0]);
            due("ready before the trap", y.state(), 3);
            y.go(1);
            due("trap", y.state(), t[1]);
        }
        SensorNode z = Asm.running(4, 64, 8, 16, Asm.li(17, 2), Asm.li(11, 65), Asm.CALL);
        z.go(3);
        due("trap 4", z.state(), 14);
    }

    private static void registers() {
        CHECK.sentence("x0 .. x31 (0 to 31), PC 32, INDEX 33, SENT 34, COUNT 35, SINCE 36; 0 without power or for another number.");
        int[] words = new int[40];
        for (int i = 0; i < 32; i++) {
            words[i] = Asm.li(i, 100 + i);
        }
        words[32] = Asm.li(17, 2);
        words[33] = Asm.li(11, 0);
        words[34] = Asm.CALL;
        words[35] = Asm.li(17, 1);
        words[36] = Asm.CALL;
        SensorNode x = Asm.node(4, 256, 8, 100, words);
        x.sample(77);
        x.on();
        x.go(34 + CHECKPOINT + 3 + 2);
        for (int i = 0; i < 32; i++) {
            due("x" + i, x.register(i), i == 0 ? 0 : i == 10 ? 77 : i == 11 ? 0 : i == 17 ? 1 : 100 + i);
        }
        due("PC", x.register(32), S + 148);
        due("INDEX", x.register(33), 1);
        due("SENT", x.register(34), 1);
        due("COUNT", x.register(35), 37);
        due("SINCE", x.register(36), 3);
        for (int i : new int[] {-1, 37, 38, 64, MIN, MAX, -32}) {
            due("register(" + i + ")", x.register(i), 0);
        }
        x.cut();
        for (int i = -1; i < 38; i++) {
            due("without power " + i, x.register(i), 0);
        }
    }

    private static void ram() {
        CHECK.sentence("A byte of RAM; -1 if there is none, or no power.");
        for (int r : new int[] {4, 8, 4096}) {
            SensorNode x = Asm.node(r, 128, 8, 64, Asm.join(Asm.set(6, r - 1), Asm.set(7, 200),
                Asm.words(Asm.store(0, 7, 6, 0), Asm.store(0, 6, 0, 0))));
            due("no power yet", x.ram(0), -1);
            x.on();
            x.go(6);
            due("ram(0)", x.ram(0), r - 1 & 255);
            due("ram(1)", x.ram(1), 0);
            due("ram(r - 2)", x.ram(r - 2), 0);
            due("ram(r - 1), above 127", x.ram(r - 1), 200);
            for (int a : new int[] {r, r + 1, -1, MIN, MAX, S, S + 1, -r}) {
                due("ram(" + a + ")", x.ram(a), -1);
            }
            x.cut();
            due("no power", x.ram(0), -1);
            due("no power, the last", x.ram(r - 1), -1);
        }
    }

    private static void words() {
        CHECK.sentence("How many words the store has; 0 if nothing is installed.");
        int[][] sizes = {{4, 4, 8}, {4, 8, 8}, {8, 4, 8}, {4, 4, 9}, {4096, 8192, 1024}};
        SensorNode x = new SensorNode();
        due("nothing is installed", x.words(), 0);
        x.install(2, 4, 8, 16, 0);
        due("nothing still", x.words(), 0);
        for (int[] s : sizes) {
            x.install(s[0], s[1], s[2], 16, 0);
            int want = 3 + 2 * (36 + s[0] / 4) + 2 * s[2] + s[1] / 4;
            due("without power", x.words(), want);
            x.on();
            due("with power", x.words(), want);
        }
        due("most", x.words(), 6219);
    }

    private static void word() {
        CHECK.sentence("Word w of the store; 0 if there is none.");
        SensorNode x = new SensorNode();
        due("nothing is installed", x.word(0), 0);
        for (int i = 0; i < 4; i++) {
            x.feed(-1, -1, -1, -1, -1);
        }
        x.install(4, 80, 8, 16, -7);
        int n = x.words();
        due("the last", x.word(n - 1), -1);
        for (int w : new int[] {-1, n, n + 1, MIN, MAX, 6218, 6219}) {
            due("word(" + w + ")", x.word(w), 0);
        }
        due("PC", x.word(35), -7);
        due("behind PC", x.word(36), 0);
        due("the first of the guest", x.word(n - 20), -1);
        due("before it", x.word(n - 21), 0);
        x.on();
        due("with power too", x.word(n - 1), -1);
        x.install(4, 4, 8, 16, 0);
        due("of a smaller one", x.word(n - 1), 0);
    }

    private static void frames() {
        CHECK.sentence("How many frames were sent out since install() (also such whose number was sent out before).");
        SensorNode x = sending(1);
        due("none yet", x.frames(), 0);
        x.go(1);
        due("one", x.frames(), 1);
        x.cut();
        x.on();
        x.go(1);
        due("the same number again", x.frames(), 2);
        due("numbers", x.frame(0, 0) * 10 + x.frame(1, 0), 11);
        x.go(2);
        due("done", x.frames(), 2);
        x.install(4, 4, 8, 16, 0);
        due("since install()", x.frames(), 0);
    }

    private static void framesKept() {
        CHECK.sentence("Of frame i (the first 400 are kept)");
        SensorNode x = sending(64);
        // 39 + 3 + 2 acts each.
        int each = CHECKPOINT + 5;
        x.go(1);
        for (int left = 398 * each; left > 0; left -= Math.min(left, 20000)) {
            x.go(Math.min(left, 20000));
        }
        due("frames", x.frames(), 399);
        due("frame 398", x.frame(398, 0), 399);
        due("no frame 399 yet", x.frame(399, 0), -1);
        due("not heard yet", x.heard(399, 0), -1);
        x.go(each);
        due("frames of 400", x.frames(), 400);
        due("frame 399", x.frame(399, 0), 400);
        due("frame 399, bytes", x.frame(399, 1), 64);
        for (int k = 0; k < 64; k++) {
            for (int i : new int[] {0, 1, 398, 399}) {
                due("byte " + k + " of frame " + i, x.heard(i, k), byteOf(sender(64), k));
            }
        }
        x.go(each);
        due("the last byte of frame 399 stays", x.heard(399, 63), byteOf(sender(64), 63));
        due("frames of 401", x.frames(), 401);
        due("frame 400 is not kept", x.frame(400, 0), -1);
        due("frame 400, bytes", x.frame(400, 1), -1);
        due("frame 400, cuts", x.frame(400, 2), -1);
        due("heard 400", x.heard(400, 0), -1);
        due("frame 399 stays", x.frame(399, 0), 400);
        due("frame 0 stays", x.frame(0, 0), 1);
        x.go(2);
        due("SENT", x.register(34), 401);
        due("strays", x.strays(), 0);
    }

    private static void frameNumbers() {
        CHECK.sentence("its number (0), how many bytes (1), how many cuts were before it (2); -1 if there is none, or for another number.");
        SensorNode x = sending(5);
        due("none yet", x.frame(0, 0), -1);
        x.go(1);
        due("number", x.frame(0, 0), 1);
        due("bytes", x.frame(0, 1), 5);
        due("cuts", x.frame(0, 2), 0);
        for (int what : new int[] {-1, 3, 4, MIN, MAX}) {
            due("frame(0, " + what + ")", x.frame(0, what), -1);
        }
        for (int i : new int[] {-1, 1, 399, 400, MIN, MAX}) {
            for (int what = 0; what < 3; what++) {
                due("frame(" + i + ", " + what + ")", x.frame(i, what), -1);
            }
        }
    }

    private static void frameCuts() {
        CHECK.sentence("how many cuts were before it (2)");
        SensorNode x = sending(1);
        for (int i = 0; i < 4; i++) {
            x.go(1);
            due("cuts before frame " + i, x.frame(i, 2), 2 * i);
            for (int n = 0; n < 2; n++) {
                x.cut();
                due("a cut that is none does not count", x.cut(), false);
                x.on();
            }
        }
        due("of the first still", x.frame(0, 2), 0);
    }

    private static void heard() {
        CHECK.sentence("Byte k of frame i; -1 if there is none.");
        for (int n : new int[] {0, 1, 2, 63, 64}) {
            SensorNode x = sending(n);
            due("not yet", x.heard(0, 0), -1);
            x.go(1);
            for (int k = 0; k < n; k++) {
                due("byte " + k + " of " + n, x.heard(0, k), byteOf(sender(n), k));
            }
            for (int k : new int[] {n, n + 1, -1, 64, 65, MIN, MAX}) {
                due("byte " + k + " of " + n, x.heard(0, k), -1);
            }
            for (int i : new int[] {1, -1, 399, 400, MIN, MAX}) {
                due("frame " + i, x.heard(i, 0), -1);
            }
        }
    }

    private static void heardOfEach() {
        CHECK.sentence("Byte k of frame i (each its own)");
        // Frames of 64, 0, 3 and 64 bytes of RAM, whose first byte counts up.
        int[] lengths = {64, 0, 3, 64};
        int[] words = new int[2 + 4 * 5 + 1];
        words[0] = Asm.li(17, 2);
        for (int i = 0; i < 4; i++) {
            words[1 + 5 * i] = Asm.li(6, 100 + i);
            words[2 + 5 * i] = Asm.store(0, 6, 0, i);
            words[3 + 5 * i] = Asm.li(10, 0);
            words[4 + 5 * i] = Asm.li(11, lengths[i]);
            words[5 + 5 * i] = Asm.CALL;
        }
        words[21] = Asm.jal(0, 0);
        SensorNode x = Asm.running(64, 128, 8, 64, words);
        x.go(1 + 4 * (4 + 54 + 3));
        due("frames", x.frames(), 4);
        x.plain(21);
        for (int i = 0; i < 4; i++) {
            due("bytes of frame " + i, x.frame(i, 1), lengths[i]);
            due("plain bytes of frame " + i, x.plainFrame(i), lengths[i]);
            for (int k = 0; k <= 64; k++) {
                int want = k >= lengths[i] ? -1 : k <= i ? 100 + k : 0;
                due("byte " + k + " of frame " + i, x.heard(i, k), want);
                due("plain byte " + k + " of frame " + i, x.plainHeard(i, k), want);
            }
        }
    }

    private static void countNumbers() {
        CHECK.sentence("-1 for another number, or if nothing is installed");
        SensorNode x = new SensorNode();
        for (int what = -1; what <= 7; what++) {
            due("nothing is installed, count(" + what + ")", x.count(what), -1);
        }
        x.install(4, 4, 7, 16, 0);
        due("nothing still", x.count(0), -1);
        x.install(4, 4, 8, 16, 0);
        for (int what = 0; what <= 6; what++) {
            due("count(" + what + ")", x.count(what), 0);
        }
        for (int what : new int[] {-1, 7, 8, MIN, MAX}) {
            due("count(" + what + ")", x.count(what), -1);
        }
    }

    private static void counts(SensorNode x, String when, int... want) {
        for (int i = 0; i < want.length; i++) {
            due("count(" + i + "), " + when, x.count(i), want[i]);
        }
    }

    private static void countActs() {
        CHECK.sentence("Since install(): acts (0), words written by acts (1 ..), instructions done (2) .. checkpoints (4: FLIP written)");
        SensorNode x = Asm.running(4, 64, 8, 16, Asm.lui(5, S), Asm.sw(5, 5, 60), Asm.li(17, 2), Asm.CALL, Asm.li(17, 3), Asm.CALL);
        counts(x, "at first", 0, 0, 0, 0, 0, 0, 0);
        x.go(1);
        counts(x, "an instruction", 1, 0, 1, 0, 0, 0, 0);
        x.go(3);
        counts(x, "an entry", 4, 3, 1, 0, 0, 0, 0);
        x.go(1);
        counts(x, "the store", 5, 4, 2, 0, 0, 0, 0);
        x.go(1 + 37);
        counts(x, "before FLIP", 43, 41, 3, 0, 0, 0, 0);
        x.go(1);
        counts(x, "FLIP", 44, 42, 3, 0, 1, 0, 0);
        x.go(1);
        counts(x, "LOG", 45, 43, 3, 0, 1, 0, 0);
        x.go(1);
        counts(x, "a frame", 46, 43, 3, 0, 1, 0, 0);
        x.go(1);
        counts(x, "OUT", 47, 44, 3, 0, 1, 0, 0);
        x.go(1);
        counts(x, "sent", 48, 44, 4, 0, 1, 0, 0);
        x.go(2);
        counts(x, "HALT", 50, 44, 5, 0, 1, 0, 0);
        x.go(9);
        counts(x, "no more", 50, 44, 5, 0, 1, 0, 0);
        x.cut();
        counts(x, "cut", 50, 44, 5, 2, 1, 1, 0);
        x.go(9);
        counts(x, "without power", 50, 44, 5, 2, 1, 1, 0);
    }

    private static void countWords() {
        CHECK.sentence("words written by acts (1: all that are told in 1, also if they were so)");
        SensorNode x = Asm.running(4, 64, 8, 16, Asm.lui(5, S), Asm.sw(0, 5, 60), Asm.sw(0, 5, 60), Asm.sw(0, 0, 0), Asm.jal(0, 0));
        x.go(1 + 4);
        due("a 0 that was 0", x.count(1), 4);
        x.go(1);
        due("and again", x.count(1), 5);
        x.go(1);
        due("RAM is no word of the store", x.count(1), 5);
        x.cut();
        x.on();
        x.go(1);
        due("a word rolled back that was so", x.count(1), 6);
        x.go(1);
        due("LOG", x.count(1), 7);
    }

    private static void countUndone() {
        CHECK.sentence("instructions that cuts undid (3)");
        SensorNode x = Asm.running(4, 64, 8, 16, Asm.jal(0, 0));
        x.cut();
        due("none were done", x.count(3), 0);
        x.on();
        x.go(1);
        x.cut();
        due("one", x.count(3), 1);
        x.on();
        x.go(16);
        x.cut();
        due("K more", x.count(3), 17);
        x.on();
        x.go(16 + 37);
        x.cut();
        due("before FLIP", x.count(3), 33);
        x.on();
        x.go(16 + 38);
        x.cut();
        due("behind FLIP", x.count(3), 33);
        x.on();
        due("COUNT", x.register(35), 16);
        x.go(1 + 5);
        x.cut();
        due("behind the checkpoint", x.count(3), 38);
        x.cut();
        due("no power, none undone", x.count(3), 38);
        due("instructions done", x.count(2), 1 + 16 + 16 + 16 + 5);
        // What is not yet done is not undone.
        SensorNode y = Asm.running(4, 64, 8, 16, Asm.lui(5, S), Asm.sw(5, 5, 60));
        y.go(1 + 3);
        y.cut();
        due("of a store not yet done", y.count(3), 1);
    }

    private static void countCuts() {
        CHECK.sentence("cuts (5)");
        SensorNode x = new SensorNode();
        x.install(4, 4, 8, 16, S);
        x.cut();
        due("none without power", x.count(5), 0);
        for (int i = 1; i <= 5; i++) {
            x.on();
            x.on();
            due("power is no cut", x.count(5), i - 1);
            x.cut();
            x.cut();
            due("cuts", x.count(5), i);
        }
        x.on();
        x.install(4, 4, 8, 16, S);
        due("since install()", x.count(5), 0);
    }

    private static void countRolledBack() {
        CHECK.sentence("words rolled back (6)");
        SensorNode x = Asm.running(4, 64, 8, 16, Asm.lui(5, S), Asm.sw(5, 5, 56), Asm.sw(5, 5, 60), Asm.sw(5, 5, 60), Asm.jal(0, 0));
        x.go(1 + 4 + 4 + 1);
        x.cut();
        x.on();
        due("none yet", x.count(6), 0);
        x.go(1);
        due("one", x.count(6), 1);
        x.go(1);
        due("two: a word has one entry", x.count(6), 2);
        x.go(1);
        due("LOG is not rolled back", x.count(6), 2);
        due("ready", x.state(), 3);
    }

    private static void plainNumbers() {
        CHECK.sentence("The plain machine does at most n instructions (0 .. 20000) from its beginning: how many it did; -1 for another n, or if nothing is installed.");
        SensorNode x = new SensorNode();
        due("nothing is installed", x.plain(0), -1);
        due("nothing is installed, n wrong too", x.plain(-1), -1);
        Asm.feed(x, Asm.addi(6, 6, 1), Asm.jal(0, -4));
        due("a tray is no node", x.plain(1), -1);
        x.install(4, 64, 8, 16, S);
        due("plain(0)", x.plain(0), 0);
        due("x6 of 0", x.plainly(6), 0);
        due("plain(1)", x.plain(1), 1);
        due("x6 of 1", x.plainly(6), 1);
        due("plain(20000)", x.plain(20000), 20000);
        due("x6 of 20000", x.plainly(6), 10000);
        for (int n : new int[] {-1, 20001, MIN, MAX}) {
            due("plain(" + n + ")", x.plain(n), -1);
            due("a refused one does nothing", x.plainly(6), 10000);
        }
        due("plain(19999)", x.plain(19999), 19999);
        due("PC of 19999", x.plainly(32), S + 4);
        due("from its beginning", x.plain(2), 2);
        due("x6 of 2", x.plainly(6), 1);
        due("the node has done nothing", x.count(0), 0);
        due("no power", x.state(), 1);
    }

    private static void plainFewer() {
        CHECK.sentence("how many it did");
        SensorNode x = Asm.node(4, 64, 8, 16, Asm.NOP, Asm.li(17, 3), Asm.CALL);
        for (int n = 0; n < 5; n++) {
            due("plain(" + n + ")", x.plain(n), Math.min(n, 2));
            due("PC", x.plainly(32), S + 4 * Math.min(n, 2));
            due("HALT is at hand", x.plainly(35), n < 2 ? 0 : 6);
        }
        x.install(4, 4, 8, 16, 2);
        due("a trap at once", x.plain(20000), 0);
        due("which", x.plainly(35), 12);
        due("PC of it", x.plainly(32), 2);
        due("at hand behind plain(0) too", x.plain(0), 0);
        due("which", x.plainly(35), 12);
    }

    private static void plainStays() {
        CHECK.sentence("What plainly() and the like tell stays till the next plain() or install().");
        SensorNode x = Asm.node(4, 64, 8, 16, Asm.li(17, 2), Asm.li(11, 1), Asm.sw(11, 0, 0), Asm.CALL, Asm.jal(0, 0));
        x.plain(4);
        x.sample(5);
        x.on();
        x.go(2);
        x.cut();
        x.feed(1, 2, 3, 4, 5);
        x.end(0);
        for (int i = 0; i < 2; i++) {
            due("x11", x.plainly(11), 1);
            due("PC", x.plainly(32), S + 16);
            due("RAM", x.plainByte(0), 1);
            due("frame", x.plainFrame(0), 1);
            due("heard", x.plainHeard(0, 0), 1);
            x.on();
            x.go(200);
        }
        x.plain(1);
        due("next plain(): x11", x.plainly(11), 0);
        due("next plain(): RAM", x.plainByte(0), 0);
        due("next plain(): frame", x.plainFrame(0), -1);
        x.plain(4);
        x.install(4, 64, 8, 16, S);
        for (int i = 0; i < 36; i++) {
            due("next install(): " + i, x.plainly(i), 0);
        }
        due("next install(): RAM", x.plainByte(0), -1);
        due("next install(): store", x.plainByte(S), -1);
        due("next install(): frame", x.plainFrame(0), -1);
        due("next install(): heard", x.plainHeard(0, 0), -1);
    }

    private static void plainly() {
        CHECK.sentence("x0 .. x31, PC, INDEX, SENT (0 to 34), as plain() left it; 35 how the instruction at hand ends it (0 it goes on, 6, 10 and the trap, as state()); 0 for another number, or before.");
        int[] words = new int[38];
        for (int i = 0; i < 32; i++) {
            words[i] = Asm.li(i, 100 + i);
        }
        words[32] = Asm.li(17, 1);
        words[33] = Asm.CALL;
        words[34] = Asm.li(17, 2);
        words[35] = Asm.li(11, 0);
        words[36] = Asm.CALL;
        SensorNode x = Asm.node(4, 256, 8, 16, words);
        for (int i = -1; i < 38; i++) {
            due("before, " + i, x.plainly(i), 0);
        }
        x.plain(32);
        for (int i = 0; i < 32; i++) {
            due("x" + i, x.plainly(i), i == 0 ? 0 : 100 + i);
        }
        due("PC", x.plainly(32), S + 128);
        due("INDEX", x.plainly(33), 0);
        due("SENT", x.plainly(34), 0);
        due("it goes on", x.plainly(35), 0);
        x.plain(37);
        due("INDEX of one", x.plainly(33), 1);
        due("SENT of one", x.plainly(34), 1);
        due("x10", x.plainly(10), 1);
        due("trap 1 at hand", x.plainly(35), 11);
        for (int i : new int[] {36, 37, -1, MIN, MAX}) {
            due("plainly(" + i + ")", x.plainly(i), 0);
        }
        int[][] endings = {{3, 0, 6}, {2, 65, 14}, {2, 5, 13}, {0, 0, 11}, {1, 0, 0}, {2, 4, 0}};
        for (int[] e : endings) {
            SensorNode y = Asm.node(4, 64, 8, 16, Asm.li(17, e[0]), Asm.li(11, e[1]), Asm.CALL);
            y.plain(1);
            due("not yet at hand", y.plainly(35), 0);
            due("two are done", y.plain(2), 2);
            due("at hand", y.plainly(35), e[2]);
        }
    }

    private static void plainByte() {
        CHECK.sentence("Its byte at an address of RAM or of the guest's part of the store; -1 if there is none, or before.");
        for (int[] size : new int[][] {{4, 20}, {4096, 8192}}) {
            SensorNode x = new SensorNode();
            due("nothing is installed", x.plainByte(0), -1);
            x.feed(-1, -1, -1, -1, -1);
            x.install(size[0], size[1], 8, 16, 0);
            due("before", x.plainByte(0), -1);
            due("before, of the store", x.plainByte(S), -1);
            x.plain(-1);
            due("still before", x.plainByte(0), -1);
            x.plain(0);
            due("RAM's first", x.plainByte(0), 0);
            due("RAM's last", x.plainByte(size[0] - 1), 0);
            due("the store's first, above 127", x.plainByte(S), 255);
            due("the store's last", x.plainByte(S + size[1] - 1), size[1] == 20 ? 255 : 0);
            for (int a : new int[] {-1, size[0], size[0] + 1, S - 1, S + size[1], S + size[1] + 1, MIN, MAX, MIN + S, -S}) {
                due("plainByte(" + a + ")", x.plainByte(a), -1);
            }
        }
    }

    private static void plainFrame() {
        CHECK.sentence("How many bytes its frame i (0 the first, whose number is 1; the first 400 are kept) has; -1 if there is none.");
        SensorNode x = Asm.node(4, 128, 8, 16, sender(64));
        due("before", x.plainFrame(0), -1);
        x.plain(3);
        due("none yet", x.plainFrame(0), -1);
        x.plain(4);
        due("the first", x.plainFrame(0), 64);
        due("x10 is its number", x.plainly(10), 1);
        due("no second", x.plainFrame(1), -1);
        for (int i : new int[] {-1, MIN, MAX, 399, 400}) {
            due("plainFrame(" + i + ")", x.plainFrame(i), -1);
        }
        x.plain(4 + 3 * 398);
        due("frame 398", x.plainFrame(398), 64);
        due("no frame 399", x.plainFrame(399), -1);
        due("not heard", x.plainHeard(399, 0), -1);
        x.plain(4 + 3 * 399);
        due("frame 399", x.plainFrame(399), 64);
        for (int k = 0; k < 64; k++) {
            for (int i : new int[] {0, 1, 398, 399}) {
                due("byte " + k + " of frame " + i, x.plainHeard(i, k), byteOf(sender(64), k));
            }
        }
        x.plain(4 + 3 * 400);
        due("frame 400 is not kept", x.plainFrame(400), -1);
        due("nor heard", x.plainHeard(400, 0), -1);
        due("SENT", x.plainly(34), 401);
        due("frame 399 stays", x.plainFrame(399), 64);
        due("its last byte stays", x.plainHeard(399, 63), byteOf(sender(64), 63));
        due("frame 0 stays", x.plainHeard(0, 0), byteOf(sender(64), 0));
    }

    private static void plainHeard() {
        CHECK.sentence("Byte k of it; -1 if there is none.");
        for (int n : new int[] {0, 1, 63, 64}) {
            SensorNode x = Asm.node(4, 128, 8, 16, sender(n));
            due("before", x.plainHeard(0, 0), -1);
            x.plain(4);
            for (int k = 0; k < n; k++) {
                due("byte " + k + " of " + n, x.plainHeard(0, k), byteOf(sender(n), k));
            }
            for (int k : new int[] {n, n + 1, 64, 65, -1, MIN, MAX}) {
                due("byte " + k + " of " + n, x.plainHeard(0, k), -1);
            }
            for (int i : new int[] {1, -1, 399, 400, MIN, MAX}) {
                due("frame " + i, x.plainHeard(i, 0), -1);
            }
        }
    }

    private static void strays() {
        CHECK.sentence("How often a LOG was met that was neither of FLIP's generation nor of the one before (of 16 bits), or a frame's number was unlike 1 more than SENT: in a right system never.");
        // Cuts everywhere, booting behind FLIP and frames sent out again among them.
        SensorNode x = Asm.node(4, 64, 8, 16, Asm.lui(5, S), Asm.sw(5, 5, 60), Asm.li(17, 2), Asm.CALL, Asm.jal(0, -12));
        for (int n = 0; n < 100; n++) {
            x.on();
            x.go(n);
            due("strays() behind " + n, x.strays(), 0);
            x.cut();
        }
        CHECK.holds("frames went out", x.frames() > 20);
        x.install(4, 4, 8, 16, 0);
        due("of a new node", x.strays(), 0);
    }
}
