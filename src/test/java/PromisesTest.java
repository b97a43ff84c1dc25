/** The promises in their order: ordinary calls, the edges the document names, wrong inputs. */
public final class PromisesTest {
    private static final int S = Asm.STORE;
    private static final Check CHECK = new Check("PromisesTest");

    private PromisesTest() {
    }

    public static void main(String[] args) {
        newObject();
        feed();
        feedInAll();
        end();
        install();
        installAnew();
        installMost();
        sample();
        on();
        cut();
        go();
        state();
        register();
        ram();
        words();
        word();
        frames();
        keptFrames();
        frame();
        heard();
        count();
        plain();
        plainly();
        plainByte();
        plainFrames();
        strays();
        CHECK.end();
    }

    private static void due(String call, long got, long want) {
        CHECK.due(call, got, want);
    }

    private static void due(String call, boolean got, boolean want) {
        CHECK.due(call, got, want);
    }

    /** x11 bytes of RAM from 0 on are sent, again and again. */
    private static SensorNode sender(int bytes) {
        return Asm.node(64, 64, 8, 16, Asm.li(17, 2), Asm.li(11, bytes), Asm.li(10, 0), Asm.CALL, Asm.jal(0, -8));
    }

    private static void newObject() {
        SensorNode x = new SensorNode();
        due("1 state()", x.state(), 0);
        due("1 words()", x.words(), 0);
        due("1 word(0)", x.word(0), 0);
        due("1 on()", x.on(), false);
        due("1 cut()", x.cut(), false);
        due("1 go(5)", x.go(5), 0);
        due("1 go(-1)", x.go(-1), -1);
        due("1 sample(1)", x.sample(1), -1);
        due("1 register(32)", x.register(32), 0);
        due("1 ram(0)", x.ram(0), -1);
        due("1 frames()", x.frames(), 0);
        due("1 frame(0, 0)", x.frame(0, 0), -1);
        due("1 heard(0, 0)", x.heard(0, 0), -1);
        due("1 count(0)", x.count(0), -1);
        due("1 plain(5)", x.plain(5), -1);
        due("1 plainly(32)", x.plainly(32), 0);
        due("1 plainByte(0)", x.plainByte(0), -1);
        due("1 plainFrame(0)", x.plainFrame(0), -1);
        due("1 plainHeard(0, 0)", x.plainHeard(0, 0), -1);
        due("1 strays()", x.strays(), 0);
        due("1 end(0)", x.end(0), true);
        due("1 end(1)", x.end(1), false);
    }

    private static void feed() {
        SensorNode x = new SensorNode();
        for (int i = 1; i <= 410; i++) {
            due("2 feed no. " + i, x.feed(i, i, i, i, i), 20 * i);
        }
        due("2 feed beyond 8200", x.feed(1, 2, 3, 4, 5), -1);
        due("2 end(8181)", x.end(8181), true);
        due("2 feed to 8201", x.feed(1, 2, 3, 4, 5), -1);
        due("2 end(8180)", x.end(8180), true);
        due("2 feed to 8200", x.feed(1, 2, 3, 4, 5), 8200);
        SensorNode y = new SensorNode();
        y.feed(0x01020304, 0x85060708, 9, 10, 11);
        y.install(4, 20, 8, 16, 0);
        int w = y.words() - 5;
        due("2 the highest byte first", y.word(w), 0x04030201);
        due("2 b behind a", y.word(w + 1), 0x08070685);
        due("2 e last", y.word(w + 4), 11 << 24);
    }

    private static void feedInAll() {
        // More calls than are promised, as the limit can't be met with fewer.
        SensorNode x = new SensorNode();
        for (int i = 1; i <= 3276; i++) {
            due("2 feed no. " + i + " in all", x.feed(1, 2, 3, 4, 5), 20);
            x.end(0);
        }
        due("2 feed beyond 65536 in all", x.feed(1, 2, 3, 4, 5), -1);
    }

    private static void end() {
        SensorNode x = new SensorNode();
        x.feed(0x11223344, 0x55667788, -1, -1, -1);
        due("3 end(-1)", x.end(-1), false);
        due("3 end(21)", x.end(21), false);
        due("3 end(20)", x.end(20), true);
        due("3 end(6)", x.end(6), true);
        due("3 end(7)", x.end(7), false);
        due("3 feed behind end", x.feed(0x0A0B0C0D, 0, 0, 0, 0), 26);
        due("3 install", x.install(4, 28, 8, 16, 0), 0);
        int w = x.words() - 7;
        due("3 first word", x.word(w), 0x44332211);
        due("3 joined word", x.word(w + 1), 0x0B0A6655);
        due("3 word behind", x.word(w + 2), 0x00000D0C);
        due("3 the tray is used up", x.end(1), false);
    }

    private static void install() {
        int[][] wrong = {
            {0, 4, 8, 16}, {3, 4, 8, 16}, {6, 4, 8, 16}, {4100, 4, 8, 16}, {-4, 4, 8, 16}, {4, 0, 8, 16}, {4, 6, 8, 16},
            {4, 8196, 8, 16}, {4, -4, 8, 16}, {4, 4, 7, 16}, {4, 4, 1025, 16}, {4, 4, -1, 16}, {4, 4, 8, 15},
            {4, 4, 8, 65537}, {4, 4, 8, -1}, {Integer.MIN_VALUE, 4, 8, 16}, {4, Integer.MIN_VALUE, 8, 16}
        };
        for (int[] w : wrong) {
            SensorNode x = new SensorNode();
            x.feed(1, 2, 3, 4, 5);
            due("4 wrong " + java.util.Arrays.toString(w), x.install(w[0], w[1], w[2], w[3], 0), -1);
            due("4 nothing is installed", x.state(), 0);
            due("4 the tray is used up", x.end(1), false);
        }
        int[][] right = {{4, 4, 8, 16}, {4096, 8192, 1024, 65536}, {8, 12, 9, 17}};
        for (int[] w : right) {
            SensorNode x = new SensorNode();
            due("4 right " + java.util.Arrays.toString(w), x.install(w[0], w[1], w[2], w[3], 77), 0);
            due("4 state", x.state(), 1);
            for (int i = 0; i < x.words(); i++) {
                due("4 word " + i, x.word(i), i == 35 ? 77 : 0);
            }
        }
        SensorNode x = new SensorNode();
        x.feed(1, 2, 3, 4, 5);
        due("4 more than g", x.install(4, 16, 8, 16, 0), -2);
        due("4 the tray is used up by -2", x.end(1), false);
        due("4 so it fits now", x.install(4, 16, 8, 16, 0), 0);
        x.feed(1, 2, 3, 4, 5);
        x.end(17);
        due("4 one more than g", x.install(4, 16, 8, 16, 0), -2);
        x.feed(1, 2, 3, 4, 5);
        x.end(16);
        due("4 just g", x.install(4, 16, 8, 16, 0), 0);
        x.feed(1, 2, 3, 4, 5);
        due("4 -1 before -2", x.install(4, 16, 8, 15, 0), -1);
    }

    private static void installAnew() {
        SensorNode x = sender(3);
        x.sample(9);
        x.on();
        x.go(500);
        x.plain(50);
        x.feed(1, 2, 3, 4, 5);
        int acts = x.count(0);
        due("4 refused", x.install(4, 8, 8, 16, 0), -2);
        due("4 a refused one leaves the node", x.count(0), acts);
        due("4 and the plain machine", x.plainly(17), 2);
        CHECK.holds("4 there were frames", x.frames() > 0);
        due("4 anew", x.install(8, 8, 8, 16, 4), 0);
        due("4 no power", x.state(), 1);
        due("4 no frames", x.frames(), 0);
        due("4 no frame", x.frame(0, 0), -1);
        for (int i = 0; i < 7; i++) {
            due("4 counts are 0", x.count(i), 0);
        }
        for (int i = 0; i < x.words(); i++) {
            due("4 word " + i + " anew", x.word(i), i == 35 ? 4 : 0);
        }
        due("4 the plain machine is forgotten", x.plainly(17), 0);
        due("4 its bytes too", x.plainByte(0), -1);
        due("4 its frames too", x.plainFrame(0), -1);
        due("4 no samples", x.sample(5), 1);
        x.on();
        due("4 registers are new", x.register(17), 0);
        due("4 RAM is new", x.ram(7), 0);
        due("4 PC is new", x.register(32), 4);
    }

    private static void installMost() {
        SensorNode x = new SensorNode();
        for (int i = 0; i < 410; i++) {
            x.feed(5 * i + 1, 5 * i + 2, 5 * i + 3, 5 * i + 4, 5 * i + 5);
        }
        x.end(8192);
        due("4 most bytes", x.install(4096, 8192, 1024, 65536, S), 0);
        x.plain(0);
        for (int w = 0; w < 2048; w++) {
            due("4 of most words", x.word(6219 - 2048 + w), Integer.reverseBytes(w + 1));
            due("4 of most bytes, plain", x.plainByte(S + 4 * w + 3), w + 1 & 255);
            due("4 of most bytes, plain", x.plainByte(S + 4 * w + 2), w + 1 >> 8);
        }
    }

    private static void sample() {
        SensorNode x = Asm.node(4, 64, 8, 16, Asm.li(17, 1), Asm.CALL, Asm.jal(0, -4));
        for (int i = 1; i <= 1000; i++) {
            due("5 sample no. " + i, x.sample(-7 * i), i);
        }
        due("5 sample no. 1001", x.sample(1), -1);
        x.on();
        x.go(1);
        for (int i = 1; i <= 3; i++) {
            x.go(1);
            due("5 sample taken", x.register(10), -7 * i);
            due("5 INDEX", x.register(33), i);
            x.go(1);
        }
        x.plain(2000);
        due("5 the last of them", x.plainly(33), 1000);
        due("5 the last sample", x.plainly(10), -7000);
        x.plain(2002);
        due("5 behind the last", x.plainly(10), 0);
        due("5 INDEX behind the last", x.plainly(33), 1001);
        SensorNode y = new SensorNode();
        y.install(4, 4, 8, 16, 0);
        due("5 first", y.sample(1), 1);
        y.on();
        due("5 with power", y.sample(1), -1);
        y.cut();
        due("5 the power was on", y.sample(1), -1);
        y.install(4, 4, 8, 16, 0);
        due("5 not since install", y.sample(1), 1);
        Asm.feed(x, Asm.li(17, 1), Asm.CALL, Asm.CALL);
        x.install(4, 64, 8, 16, S);
        x.sample(6);
        x.plain(2);
        due("5 of the new node", x.plainly(10), 6);
        x.plain(3);
        due("5 the old samples are gone", x.plainly(10), 0);
    }

    private static void on() {
        SensorNode x = Asm.node(8, 64, 8, 16, Asm.li(6, 9));
        due("6 on()", x.on(), true);
        due("6 on() twice", x.on(), false);
        due("6 ready", x.state(), 3);
        due("6 PC", x.register(32), S);
        x.go(9);
        due("6 ended", x.state(), 11);
        due("6 on() though it ended", x.on(), false);
        x.cut();
        due("6 on() behind cut", x.on(), true);
        due("6 registers of the buffer", x.register(6), 0);
    }

    private static void cut() {
        SensorNode x = Asm.node(8, 64, 8, 16, Asm.li(6, 9), Asm.sw(6, 0, 4));
        due("7 cut() before on()", x.cut(), false);
        x.on();
        x.go(2);
        due("7 RAM was written", x.ram(4), 9);
        due("7 cut()", x.cut(), true);
        due("7 cut() twice", x.cut(), false);
        due("7 state", x.state(), 1);
        due("7 registers", x.register(6), 0);
        due("7 PC", x.register(32), 0);
        due("7 RAM", x.ram(4), -1);
        due("7 cuts", x.count(5), 1);
        x.on();
        due("7 RAM was lost", x.ram(4), 0);
        due("7 COUNT", x.register(35), 0);
    }

    private static void go() {
        SensorNode x = Asm.node(4, 64, 8, 65536, Asm.jal(0, 0));
        due("8 without power", x.go(7), 0);
        x.on();
        due("8 go(-1)", x.go(-1), -1);
        due("8 go(20001)", x.go(20001), -1);
        due("8 go(MIN)", x.go(Integer.MIN_VALUE), -1);
        due("8 go(0)", x.go(0), 0);
        due("8 go(20000)", x.go(20000), 20000);
        due("8 one act each", x.register(35), 20000);
        due("8 go(1)", x.go(1), 1);
        due("8 count(0)", x.count(0), 20001);
        SensorNode y = Asm.node(4, 64, 8, 16, Asm.NOP, Asm.li(17, 3), Asm.CALL);
        y.on();
        due("8 ending is an act", y.go(100), 3);
        due("8 HALT is not done", y.register(35), 2);
        due("8 PC stays", y.register(32), S + 8);
        due("8 ended", y.go(100), 0);
    }

    private static void state() {
        // r 4: a checkpoint is 37 words, FLIP and LOG.
        SensorNode x = Asm.node(4, 64, 8, 16, Asm.lui(5, S), Asm.sw(5, 5, 32), Asm.li(17, 2), Asm.CALL, Asm.li(17, 3), Asm.CALL);
        due("9 no power", x.state(), 1);
        x.on();
        due("9 ready", x.state(), 3);
        x.go(1);
        due("9 ready again", x.state(), 3);
        for (int i = 0; i < 3; i++) {
            x.go(1);
            due("9 in a store", x.state(), 5);
        }
        x.cut();
        x.on();
        due("9 it boots", x.state(), 2);
        x.go(1);
        due("9 LOG is to come", x.state(), 2);
        x.go(1);
        due("9 booted", x.state(), 3);
        x.go(5);
        due("9 stored", x.state(), 3);
        x.go(1);
        due("9 before SEND", x.state(), 3);
        for (int i = 0; i < 38; i++) {
            x.go(1);
            due("9 in a checkpoint, act " + i, x.state(), 4);
        }
        x.cut();
        x.on();
        due("9 behind FLIP it boots", x.state(), 2);
        due("9 nothing was undone", x.count(3), 1);
        x.go(1);
        due("9 ready behind that", x.state(), 3);
        x.go(1);
        due("9 in a SEND", x.state(), 5);
        x.go(1);
        due("9 OUT is written", x.state(), 5);
        x.go(1);
        due("9 sent", x.state(), 3);
        x.go(1);
        due("9 before HALT", x.state(), 3);
        x.go(1);
        due("9 halted", x.state(), 6);
        x.cut();
        due("9 no power again", x.state(), 1);
    }

    private static void register() {
        SensorNode x = Asm.node(4, 64, 8, 16, Asm.li(0, 5), Asm.li(1, -1), Asm.li(31, 31), Asm.li(17, 1), Asm.CALL);
        x.on();
        x.go(5);
        due("10 x0", x.register(0), 0);
        due("10 x1", x.register(1), -1);
        due("10 x31", x.register(31), 31);
        due("10 PC", x.register(32), S + 20);
        due("10 INDEX", x.register(33), 1);
        due("10 SENT", x.register(34), 0);
        due("10 COUNT", x.register(35), 5);
        due("10 SINCE", x.register(36), 5);
        due("10 37", x.register(37), 0);
        due("10 -1", x.register(-1), 0);
        due("10 MAX", x.register(Integer.MAX_VALUE), 0);
        due("10 MIN", x.register(Integer.MIN_VALUE), 0);
    }

    private static void ram() {
        SensorNode x = Asm.node(8, 64, 8, 16, Asm.lui(6, 0x81828000), Asm.addi(6, 6, 0x384), Asm.sw(6, 0, 4));
        due("11 no power", x.ram(0), -1);
        x.on();
        x.go(3);
        due("11 lowest first", x.ram(4), 0x84);
        due("11 second", x.ram(5), 0x83);
        due("11 third", x.ram(6), 0x82);
        due("11 highest", x.ram(7), 0x81);
        due("11 other", x.ram(3), 0);
        due("11 -1", x.ram(-1), -1);
        due("11 r", x.ram(8), -1);
        due("11 the store is none", x.ram(S), -1);
    }

    private static void words() {
        SensorNode x = new SensorNode();
        x.install(4, 4, 8, 16, 0);
        due("12 least", x.words(), 3 + 2 * 37 + 16 + 1);
        x.on();
        due("12 with power", x.words(), 94);
        x.install(4096, 8192, 1024, 16, 0);
        due("12 most", x.words(), 3 + 2 * 1060 + 2048 + 2048);
    }

    private static void word() {
        SensorNode x = Asm.node(8, 64, 8, 16, Asm.lui(5, S), Asm.store(0, 5, 5, 1), Asm.li(6, 7), Asm.store(0, 6, 5, 41),
            Asm.sw(6, 0, 4), Asm.li(17, 2), Asm.CALL, Asm.jal(0, 0));
        int log = 3 + 2 * 38;
        int guest = log + 16;
        x.on();
        x.go(2);
        due("13 an entry's number", x.word(log), guest);
        due("13 does not count yet", x.word(1), 0);
        x.go(1);
        due("13 what it was", x.word(log + 1), Asm.lui(5, S));
        x.go(1);
        due("13 LOG", x.word(1), 1);
        due("13 not yet written", x.word(guest), Asm.lui(5, S));
        x.go(1);
        due("13 a byte anew", x.word(guest), Asm.lui(5, S) & ~0xFF00);
        x.go(5);
        due("13 second entry", x.word(log + 2), guest + 10);
        due("13 LOG of two", x.word(1), 2);
        due("13 byte of a word", x.word(guest + 10), 0x700);
        x.go(2 + 38);
        due("13 second buffer: x5", x.word(3 + 38 + 5), S);
        due("13 second buffer: PC", x.word(3 + 38 + 32), S + 24);
        due("13 second buffer: COUNT", x.word(3 + 38 + 35), 6);
        due("13 second buffer: RAM", x.word(3 + 38 + 37), 7);
        due("13 FLIP not yet", x.word(0), 0);
        x.go(1);
        due("13 FLIP", x.word(0), 1);
        due("13 LOG of the old generation", x.word(1), 2);
        x.go(1);
        due("13 LOG of the new", x.word(1), 1 << 16);
        x.go(1);
        due("13 OUT not yet", x.word(2), 0);
        x.go(1);
        due("13 OUT", x.word(2), 1);
        x.cut();
        due("13 the store stays", x.word(guest + 10), 0x700);
        due("13 -1", x.word(-1), 0);
        due("13 behind the last", x.word(guest + 16), 0);
        due("13 MAX", x.word(Integer.MAX_VALUE), 0);
        due("13 MIN", x.word(Integer.MIN_VALUE), 0);
    }

    private static void frames() {
        SensorNode x = sender(3);
        x.on();
        // r 64: a checkpoint is 54 acts, and comes behind three instructions.
        due("14 checkpoint", x.go(3 + 54), 57);
        due("14 none yet", x.frames(), 0);
        x.go(1);
        due("14 sent out", x.frames(), 1);
        x.cut();
        due("14 stays", x.frames(), 1);
        x.on();
        x.go(1);
        due("14 sent out again", x.frames(), 2);
        x.go(1);
        x.cut();
        x.on();
        due("14 OUT is known", x.go(1), 1);
        due("14 not again", x.frames(), 2);
        due("14 SENT", x.register(34), 1);
        due("14 x10", x.register(10), 1);
    }

    private static void keptFrames() {
        SensorNode x = sender(64);
        x.on();
        for (int i = 0; i < 2; i++) {
            x.go(20000);
        }
        CHECK.holds("14 more than 400 frames", x.frames() > 401);
        due("15 the last kept", x.frame(399, 0), 400);
        due("15 no more", x.frame(400, 0), -1);
        due("16 the last kept", x.heard(399, 63), 0);
        due("16 no more", x.heard(400, 0), -1);
        due("15 SENT goes on", x.register(34), x.frames());
    }

    private static void frame() {
        SensorNode x = Asm.node(4, 64, 8, 16, Asm.li(17, 2), Asm.lui(10, S), Asm.li(11, 5), Asm.CALL, Asm.li(11, 0), Asm.CALL,
            Asm.jal(0, 0));
        x.on();
        x.cut();
        x.on();
        x.go(3 + 39 + 1);
        x.cut();
        x.on();
        // A checkpoint before the second SEND too.
        x.go(1 + 3 + 1 + 39 + 3);
        due("15 frames", x.frames(), 3);
        int[][] want = {{1, 5, 1}, {1, 5, 2}, {2, 0, 2}};
        for (int i = 0; i < 3; i++) {
            for (int what = 0; what < 3; what++) {
                due("15 frame(" + i + ", " + what + ")", x.frame(i, what), want[i][what]);
            }
        }
        due("15 what 3", x.frame(0, 3), -1);
        due("15 what -1", x.frame(0, -1), -1);
        due("15 frame -1", x.frame(-1, 0), -1);
        due("15 frame 3", x.frame(3, 0), -1);
        due("15 length of frame 3", x.frame(3, 1), -1);
        due("15 cuts before frame 3", x.frame(3, 2), -1);
        due("15 frame MAX", x.frame(Integer.MAX_VALUE, 0), -1);
        due("15 SENT", x.register(34), 2);
    }

    private static void heard() {
        int third = Asm.li(11, 5);
        SensorNode x = Asm.node(4, 64, 8, 16, Asm.li(17, 2), Asm.lui(10, S), third, Asm.addi(10, 10, 7), Asm.CALL, Asm.jal(0, 0));
        x.on();
        x.go(4 + 39 + 1);
        due("16 from any address", x.heard(0, 0), Asm.lui(10, S) >>> 24);
        for (int k = 0; k < 4; k++) {
            due("16 byte " + k, x.heard(0, 1 + k), third >>> 8 * k & 255);
        }
        due("16 byte 5", x.heard(0, 5), -1);
        due("16 byte -1", x.heard(0, -1), -1);
        due("16 frame 1", x.heard(1, 0), -1);
        due("16 frame -1", x.heard(-1, 0), -1);
        due("16 MIN", x.heard(Integer.MIN_VALUE, 0), -1);
        due("16 MAX", x.heard(0, Integer.MAX_VALUE), -1);
    }

    private static void count() {
        SensorNode x = Asm.node(4, 64, 8, 16, Asm.lui(5, S), Asm.sw(0, 5, 60), Asm.sw(0, 5, 60), Asm.sw(0, 0, 0), Asm.li(17, 2),
            Asm.CALL, Asm.jal(0, 0));
        x.on();
        x.go(1 + 4 + 1);
        counts(x, "stores", 6, 5, 3, 0, 0, 0, 0);
        x.cut();
        counts(x, "cut", 6, 5, 3, 3, 0, 1, 0);
        x.on();
        x.go(2);
        counts(x, "rolled back", 8, 7, 3, 3, 0, 1, 1);
        x.go(1 + 4 + 1 + 1 + 1);
        counts(x, "again", 16, 12, 8, 3, 0, 1, 1);
        x.go(37);
        counts(x, "in a checkpoint", 53, 49, 8, 3, 0, 1, 1);
        x.go(1);
        counts(x, "FLIP", 54, 50, 8, 3, 1, 1, 1);
        x.cut();
        counts(x, "cut behind FLIP", 54, 50, 8, 3, 1, 2, 1);
        x.on();
        x.go(1);
        counts(x, "LOG of the new generation", 55, 51, 8, 3, 1, 2, 1);
        x.go(1);
        counts(x, "sent out", 56, 51, 8, 3, 1, 2, 1);
        x.go(2);
        counts(x, "sent", 58, 52, 9, 3, 1, 2, 1);
        due("17 -1", x.count(-1), -1);
        due("17 7", x.count(7), -1);
    }

    private static void counts(SensorNode x, String when, int... want) {
        for (int i = 0; i < want.length; i++) {
            due("17 count(" + i + "), " + when, x.count(i), want[i]);
        }
    }

    private static void plain() {
        SensorNode x = Asm.node(4, 64, 8, 16, Asm.addi(6, 6, 1), Asm.jal(0, -4));
        due("18 plain(-1)", x.plain(-1), -1);
        due("18 plain(20001)", x.plain(20001), -1);
        due("18 still before", x.plainly(32), 0);
        due("18 plain(0)", x.plain(0), 0);
        due("18 PC", x.plainly(32), S);
        due("18 plain(20000)", x.plain(20000), 20000);
        due("18 x6", x.plainly(6), 10000);
        due("18 from its beginning", x.plain(3), 3);
        due("18 x6 of 3", x.plainly(6), 2);
        due("18 a wrong one", x.plain(-1), -1);
        due("18 leaves all", x.plainly(6), 2);
        due("18 no power is needed, none taken", x.state(), 1);
        x.on();
        x.go(9);
        due("18 the node is another", x.plainly(6), 2);
        SensorNode y = Asm.node(4, 64, 8, 16, Asm.lui(5, S), Asm.lui(6, S), Asm.load(2, 7, 5, 60), Asm.addi(7, 7, 1),
            Asm.sw(7, 5, 60), Asm.jal(0, -12));
        y.on();
        y.go(3000);
        due("18 the words are those of install()", y.plain(5), 5);
        due("18 x7", y.plainly(7), 1);
        due("18 anew", y.plain(5), 5);
        due("18 x7 anew", y.plainly(7), 1);
    }

    private static void plainly() {
        SensorNode x = Asm.node(4, 64, 8, 16, Asm.li(17, 1), Asm.CALL, Asm.li(17, 2), Asm.li(10, 0), Asm.CALL, Asm.li(17, 3),
            Asm.CALL);
        x.sample(55);
        due("19 before", x.plainly(32), 0);
        x.plain(2);
        due("19 x10", x.plainly(10), 55);
        due("19 x0", x.plainly(0), 0);
        due("19 PC", x.plainly(32), S + 8);
        due("19 INDEX", x.plainly(33), 1);
        due("19 SENT", x.plainly(34), 0);
        due("19 it goes on", x.plainly(35), 0);
        x.plain(6);
        due("19 SENT of one", x.plainly(34), 1);
        due("19 HALT at hand", x.plainly(35), 6);
        due("19 no more is done", x.plain(7), 6);
        due("19 PC at HALT", x.plainly(32), S + 24);
        due("19 36", x.plainly(36), 0);
        due("19 -1", x.plainly(-1), 0);
        x.install(4, 4, 8, 16, 2);
        x.plain(0);
        due("19 a trap at hand", x.plainly(35), 12);
    }

    private static void plainByte() {
        SensorNode x = Asm.node(8, 64, 8, 16, Asm.lui(5, S), Asm.li(6, -2), Asm.store(1, 6, 5, 62), Asm.store(0, 6, 0, 7));
        due("20 before", x.plainByte(0), -1);
        x.plain(9);
        due("20 store", x.plainByte(S + 62), 254);
        due("20 its last", x.plainByte(S + 63), 255);
        due("20 behind it", x.plainByte(S + 64), -1);
        due("20 before it", x.plainByte(S - 1), -1);
        due("20 first", x.plainByte(S), Asm.lui(5, S) & 255);
        due("20 RAM", x.plainByte(7), 254);
        due("20 RAM's first", x.plainByte(0), 0);
        due("20 behind RAM", x.plainByte(8), -1);
        due("20 -1", x.plainByte(-1), -1);
        due("20 MIN", x.plainByte(Integer.MIN_VALUE), -1);
    }

    private static void plainFrames() {
        SensorNode x = sender(7);
        due("21 before", x.plainFrame(0), -1);
        x.plain(4);
        due("21 one", x.plainFrame(0), 7);
        due("21 no second", x.plainFrame(1), -1);
        due("21 -1", x.plainFrame(-1), -1);
        due("22 byte 6", x.plainHeard(0, 6), 0);
        due("22 byte 7", x.plainHeard(0, 7), -1);
        due("22 byte -1", x.plainHeard(0, -1), -1);
        due("22 frame 1", x.plainHeard(1, 0), -1);
        x.plain(3);
        due("21 none", x.plainFrame(0), -1);
        due("22 none", x.plainHeard(0, 0), -1);
        x.plain(20000);
        due("21 the last kept", x.plainFrame(399), 7);
        due("21 no more", x.plainFrame(400), -1);
        due("22 the last kept", x.plainHeard(399, 0), 0);
        due("22 no more", x.plainHeard(400, 0), -1);
        CHECK.holds("21 more were sent", x.plainly(34) > 401);
    }

    private static void strays() {
        SensorNode x = sender(1);
        for (int i = 0; i < 200; i++) {
            x.on();
            x.go(i);
            x.cut();
        }
        due("23 strays()", x.strays(), 0);
    }
}
