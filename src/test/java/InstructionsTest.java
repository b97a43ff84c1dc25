/** Every kind of instruction and trap, on the node and on the plain machine. */
public final class InstructionsTest {
    private static final int S = Asm.STORE;
    private static final int MIN = Integer.MIN_VALUE;
    private static final Check CHECK = new Check("InstructionsTest");

    private InstructionsTest() {
    }

    public static void main(String[] args) {
        reckoning();
        places();
        jumps();
        branches();
        loads();
        stores();
        calls();
        wordsThatAreNone();
        traps();
        orderOfTraps();
        CHECK.end();
    }

    /** x6 = a, x7 = b, then the word; d is x8. */
    private static SensorNode after(int a, int b, int word) {
        SensorNode x = Asm.node(16, 128, 8, 64, Asm.join(Asm.set(6, a), Asm.set(7, b), new int[] {word}));
        x.on();
        x.go(5);
        x.plain(5);
        return x;
    }

    private static void gives(String what, int a, int b, int word, int want) {
        SensorNode x = after(a, b, word);
        CHECK.due(what + " of " + a + ", " + b, x.register(8), want);
        CHECK.due(what + " goes on", x.register(32), S + 20);
        CHECK.due(what + ", plain", x.plainly(8), want);
    }

    private static void ends(String what, int a, int b, int word, int want) {
        SensorNode x = after(a, b, word);
        CHECK.due(what + " state of " + a + ", " + b, x.state(), want);
        CHECK.due(what + " PC stays", x.register(32), S + 16);
        CHECK.due(what + " COUNT stays", x.register(35), 4);
        CHECK.due(what + " x8 stays", x.register(8), 0);
        CHECK.due(what + " INDEX stays", x.register(33), 0);
        CHECK.due(what + " is an act", x.count(0), 5);
        CHECK.due(what + ", plain", x.plainly(35), want);
    }

    private static void reckoning() {
        int[] as = {0, 1, -1, 5, -5, MIN, Integer.MAX_VALUE, 0x12345678};
        int[] bs = {0, 1, -1, 7, 31, 32, 33, 2047, -2048, MIN, Integer.MAX_VALUE};
        for (int a : as) {
            for (int b : bs) {
                int[] want = {a + b, a << b, a < b ? 1 : 0, Integer.compareUnsigned(a, b) < 0 ? 1 : 0, a ^ b, a >>> b, a | b, a & b};
                for (int f = 0; f < 8; f++) {
                    gives("51 f " + f, a, b, Asm.r(f, 0, 8, 6, 7), want[f]);
                    if (f != 1 && f != 5 && b >= -2048 && b <= 2047) {
                        gives("19 f " + f, a, 0, Asm.i(19, f, 8, 6, b), want[f]);
                    }
                    if ((f == 1 || f == 5) && b >= 0 && b <= 31) {
                        gives("19 f " + f, a, 0, Asm.i(19, f, 8, 6, b), want[f]);
                    }
                }
                gives("sub", a, b, Asm.r(0, 32, 8, 6, 7), a - b);
                gives("sra", a, b, Asm.r(5, 32, 8, 6, 7), a >> b);
                if (b >= 0 && b <= 31) {
                    gives("srai", a, 0, Asm.i(19, 5, 8, 6, 1024 + b), a >> b);
                }
            }
        }
        gives("x0 stays 0", 7, 7, Asm.r(0, 0, 0, 6, 7), 0);
        CHECK.due("x0", after(7, 7, Asm.r(0, 0, 0, 6, 7)).register(0), 0);
    }

    private static void places() {
        gives("55", 0, 0, Asm.lui(8, 0xFFFFF000), 0xFFFFF000);
        gives("23", 0, 0, Asm.auipc(8, 0x80001000), S + 16 + 0x80001000);
        gives("15, f 0", 0, 0, 15 | 8 << 7, 0);
        CHECK.due("15 sets no register", after(77, 0, 15 | 6 << 7).register(6), 77);
    }

    private static void jumps() {
        for (int offset : new int[] {4, 8, -4, 2048, -2048, 4096, -4096, 1 << 19, -(1 << 20), (1 << 20) - 4, 0x55554, -0x55554}) {
            SensorNode x = after(0, 0, Asm.jal(8, offset));
            CHECK.due("111 to " + offset, x.register(32), S + 16 + offset);
            CHECK.due("111 d", x.register(8), S + 20);
            CHECK.due("111 plain", x.plainly(32), S + 16 + offset);
        }
        for (int offset : new int[] {0, 1, 4, -4, -2048, 2044, 2045}) {
            SensorNode x = after(S + 40, 0, Asm.jalr(8, 6, offset));
            CHECK.due("103 by " + offset, x.register(32), S + 40 + offset & -2);
            CHECK.due("103 d", x.register(8), S + 20);
            SensorNode y = after(S + 40, 0, Asm.jalr(6, 6, offset));
            CHECK.due("103 by a as it was", y.register(32), S + 40 + offset & -2);
            CHECK.due("103 d is a", y.register(6), S + 20);
        }
        ends("111 to half a word", 0, 0, Asm.jal(8, 6), 12);
        ends("103 to half a word", S + 2, 0, Asm.jalr(8, 6, 0), 12);
        ends("103 to half a word and 1", S + 3, 0, Asm.jalr(8, 6, 0), 12);
        SensorNode x = after(0, 0, Asm.jal(8, 1024));
        x.go(1);
        CHECK.due("a place outside traps as PC", x.state(), 13);
        CHECK.due("there", x.register(32), S + 16 + 1024);
        CHECK.due("the jump was done", x.register(35), 5);
    }

    private static void branches() {
        int[] vs = {0, 1, -1, MIN, Integer.MAX_VALUE};
        for (int a : vs) {
            for (int b : vs) {
                boolean below = Integer.compareUnsigned(a, b) < 0;
                boolean[] taken = {a == b, a != b, false, false, a < b, a >= b, below, !below};
                for (int f : new int[] {0, 1, 4, 5, 6, 7}) {
                    SensorNode x = after(a, b, Asm.branch(f, 6, 7, -8));
                    CHECK.due("99 f " + f + " of " + a + ", " + b, x.register(32), taken[f] ? S + 8 : S + 20);
                    if (taken[f]) {
                        ends("99 f " + f + " to half a word", a, b, Asm.branch(f, 6, 7, 6), 12);
                    } else {
                        gives("99 f " + f + " not taken", a, b, Asm.branch(f, 6, 7, 6), 0);
                    }
                }
            }
        }
        // Bits 7-11 are a part of B here, and of S, and name no register.
        SensorNode taken = Asm.node(16, 128, 8, 64, Asm.li(8, 5), Asm.branch(0, 0, 0, 8));
        SensorNode passed = Asm.node(16, 128, 8, 64, Asm.li(8, 5), Asm.branch(1, 0, 0, 8));
        SensorNode stored = Asm.node(16, 128, 8, 64, Asm.li(8, 5), Asm.sw(0, 0, 8));
        for (SensorNode x : new SensorNode[] {taken, passed, stored}) {
            x.on();
            x.go(2);
            CHECK.due("x8 stays", x.register(8), 5);
            CHECK.due("done", x.register(35), 2);
        }
        for (int offset : new int[] {4, 2048, -2048, -4096, 4092, 0x554, -0x554, 0xAA8}) {
            CHECK.due("99 by " + offset, after(0, 0, Asm.branch(0, 6, 7, offset)).register(32), S + 16 + offset);
        }
    }

    /** The bytes 80 91 A2 B3 stand at x5 + 64 and at 8 in RAM. */
    private static SensorNode loaded(int f, int offset, boolean ram) {
        int[] begin = Asm.join(Asm.set(5, S), Asm.set(6, 0xB3A29180), new int[] {Asm.sw(6, 0, 8), Asm.sw(6, 5, 64)});
        SensorNode x = Asm.node(16, 128, 8, 64, Asm.join(begin, new int[] {Asm.load(f, 8, ram ? 0 : 5, (ram ? 8 : 64) + offset)}));
        x.on();
        x.go(10);
        x.plain(7);
        return x;
    }

    private static void loads() {
        int[][] cases = {
            {0, 0, 0xFFFFFF80}, {0, 3, 0xFFFFFFB3}, {1, 0, 0xFFFF9180}, {1, 2, 0xFFFFB3A2}, {2, 0, 0xB3A29180},
            {4, 1, 0x91}, {4, 2, 0xA2}, {5, 0, 0x9180}, {5, 2, 0xB3A2}
        };
        for (int[] c : cases) {
            for (boolean ram : new boolean[] {true, false}) {
                SensorNode x = loaded(c[0], c[1], ram);
                CHECK.due("3 f " + c[0] + " at " + c[1], x.register(8), c[2]);
                CHECK.due("3 plain f " + c[0] + " at " + c[1], x.plainly(8), c[2]);
            }
        }
    }

    private static void stores() {
        int[][] cases = {
            {0, 0, 0xB3A291EF}, {0, 1, 0xB3A2EF80}, {0, 2, 0xB3EF9180}, {0, 3, 0xEFA29180}, {1, 0, 0xB3A2CDEF},
            {1, 2, 0xCDEF9180}, {2, 0, 0x89ABCDEF}
        };
        for (int[] c : cases) {
            int[] begin = Asm.join(Asm.set(5, S), Asm.set(6, 0xB3A29180), Asm.set(7, 0x89ABCDEF), new int[] {Asm.sw(6, 0, 8), Asm.sw(6, 5, 64)});
            int[] words = Asm.join(begin, new int[] {Asm.store(c[0], 7, 0, 8 + c[1]), Asm.store(c[0], 7, 5, 64 + c[1]),
                Asm.load(2, 8, 0, 8), Asm.load(2, 9, 5, 64)});
            SensorNode x = Asm.node(16, 128, 8, 64, words);
            x.on();
            x.go(7 + 4 + 1 + 1 + 2);
            CHECK.due("35 f " + c[0] + " in RAM", x.register(8), c[2]);
            CHECK.due("35 f " + c[0] + " in the store", x.register(9), c[2]);
            x.plain(12);
            CHECK.due("35 plain f " + c[0] + " in RAM", x.plainly(8), c[2]);
            CHECK.due("35 plain f " + c[0] + " in the store", x.plainly(9), c[2]);
        }
        SensorNode below = Asm.node(16, 128, 8, 64, Asm.join(Asm.set(6, 2048 + 4), Asm.set(7, 9), new int[] {Asm.sw(7, 6, -2048)}));
        below.on();
        below.go(5);
        CHECK.due("35 S below 0", below.ram(4), 9);
    }

    private static SensorNode called(int x17, int x10, int x11) {
        SensorNode x = Asm.node(128, 128, 8, 64, Asm.join(Asm.set(17, x17), Asm.set(10, x10), Asm.set(11, x11), new int[] {Asm.CALL}));
        x.on();
        // r 128: a checkpoint before a SEND is 70 acts.
        x.go(6 + 70 + 3);
        x.plain(100);
        return x;
    }

    private static void sends(int at, int n, int state) {
        SensorNode x = called(2, at, n);
        CHECK.due("SEND at " + at + " of " + n, x.state(), state);
        CHECK.due("SEND frames", x.frames(), state == 3 ? 1 : 0);
        CHECK.due("SEND length", x.frame(0, 1), state == 3 ? n : -1);
        CHECK.due("SEND checkpoints", x.count(4), state == 3 ? 1 : 0);
        CHECK.due("SEND x10", x.register(10), state == 3 ? 1 : at);
        CHECK.due("SEND plain", x.plainly(35), state == 3 ? 11 : state);
        CHECK.due("SEND plain length", x.plainFrame(0), state == 3 ? n : -1);
    }

    private static void calls() {
        sends(0, 64, 3);
        sends(64, 64, 3);
        sends(65, 64, 13);
        sends(127, 1, 3);
        sends(127, 2, 13);
        sends(128, 1, 13);
        sends(-1, 1, 13);
        sends(-1, 2, 13);
        sends(S, 64, 3);
        sends(S + 64, 64, 3);
        sends(S + 65, 64, 13);
        sends(S - 1, 2, 13);
        sends(12345, 0, 3);
        sends(-1, 0, 3);
        sends(0, 65, 14);
        sends(-1, 65, 14);
        sends(0, -1, 14);
        sends(0, MIN, 14);
        for (int x17 : new int[] {0, 4, -1, MIN}) {
            CHECK.due("CALL " + x17, called(x17, 0, 0).state(), 11);
        }
        CHECK.due("HALT", called(3, 0, 0).state(), 6);
        CHECK.due("HALT plain", called(3, 0, 0).plainly(35), 6);
    }

    private static void wordsThatAreNone() {
        int[] none = {
            0, -1, 115 | 1 << 20, 115 | 8 << 7, 115 | 6 << 15, 15 | 1 << 12, 1, 127, 54, 47,
            Asm.i(103, 1, 8, 6, 0), Asm.i(103, 7, 8, 6, 0), Asm.branch(2, 6, 7, 8), Asm.branch(3, 6, 7, 8),
            Asm.load(3, 8, 0, 0), Asm.load(6, 8, 0, 0), Asm.load(7, 8, 0, 0), Asm.store(3, 6, 0, 0), Asm.store(4, 6, 0, 0),
            Asm.store(7, 6, 0, 0), Asm.i(19, 1, 8, 6, 1024), Asm.i(19, 1, 8, 6, 32), Asm.i(19, 5, 8, 6, 32),
            Asm.i(19, 5, 8, 6, 2048), Asm.r(0, 1, 8, 6, 7), Asm.r(1, 32, 8, 6, 7), Asm.r(4, 32, 8, 6, 7),
            Asm.r(7, 32, 8, 6, 7), Asm.r(5, 33, 8, 6, 7), Asm.r(0, 64, 8, 6, 7)
        };
        for (int word : none) {
            ends("word " + word, 1, 1, word, 11);
        }
    }

    private static void traps() {
        int[][] places = {
            // f, address, how a load or a store there ends
            {0, 15, 3}, {0, 16, 13}, {1, 14, 3}, {1, 15, 12}, {1, 16, 13}, {2, 12, 3}, {2, 13, 12}, {2, 14, 12}, {2, 16, 13},
            {0, S - 1, 13}, {0, S + 127, 3}, {0, S + 128, 13}, {1, S + 126, 3}, {1, S + 127, 12}, {2, S + 124, 3},
            {2, S + 126, 12}, {2, S + 128, 13}, {0, -1, 13}, {1, -2, 13}, {2, -4, 13}, {2, -2, 12}, {2, MIN, 13},
            {2, MIN + S, 13}, {1, 1 << 20 | 1, 12}
        };
        for (int[] p : places) {
            if (p[2] == 3) {
                CHECK.due("load at " + p[1], after(p[1], 5, Asm.load(p[0], 9, 6, 0)).register(35), 5);
                SensorNode x = after(p[1], 5, Asm.store(p[0], 7, 6, 0));
                x.go(p[1] < 16 ? 0 : 3);
                CHECK.due("store at " + p[1], x.register(35), 5);
            } else {
                ends("load at " + p[1], p[1], 5, Asm.load(p[0], 8, 6, 0), p[2]);
                ends("store at " + p[1], p[1], 5, Asm.store(p[0], 7, 6, 0), p[2]);
                ends("load to x0", p[1], 5, Asm.load(p[0], 0, 6, 0), p[2]);
            }
        }
        int[][] pcs = {{1, 12}, {2, 12}, {-1, 12}, {16, 13}, {S - 4, 13}, {S + 128, 13}, {S + 130, 12}, {MIN, 13}, {-4, 13}, {12, 11}};
        for (int[] p : pcs) {
            SensorNode x = new SensorNode();
            x.install(16, 128, 8, 16, p[0]);
            x.on();
            CHECK.due("PC " + p[0] + " ends it", x.go(9), 1);
            CHECK.due("PC " + p[0], x.state(), p[1]);
            x.plain(5);
            CHECK.due("PC " + p[0] + " plain", x.plainly(35), p[1]);
        }
    }

    private static void orderOfTraps() {
        ends("1 before 2", S + 1, 0, Asm.load(3, 8, 6, 0), 11);
        ends("1 before 2 of a jump", S + 2, 0, Asm.i(103, 1, 8, 6, 0), 11);
        ends("1 before 3", -4, 0, Asm.store(3, 7, 6, 0), 11);
        ends("2 before 3", -3, 0, Asm.load(2, 8, 6, 0), 12);
        CHECK.due("4 before 3", called(2, -1, 65).state(), 14);
        CHECK.due("2 before 3 of PC", pcState(-2), 12);
    }

    private static int pcState(int pc) {
        SensorNode x = new SensorNode();
        x.install(4, 4, 8, 16, pc);
        x.on();
        x.go(1);
        return x.state();
    }
}
