/** Makes guest words, and brings programs of them into a node. */
final class Asm {
    static final int STORE = 1 << 30;
    static final int CALL = 115;
    static final int NOP = 19;

    private Asm() {
    }

    static int i(int op, int f, int d, int a, int imm) {
        return imm << 20 | a << 15 | f << 12 | d << 7 | op;
    }

    static int r(int f, int h, int d, int a, int b) {
        return h << 25 | b << 20 | a << 15 | f << 12 | d << 7 | 51;
    }

    static int addi(int d, int a, int imm) {
        return i(19, 0, d, a, imm);
    }

    static int li(int d, int imm) {
        return addi(d, 0, imm);
    }

    static int lui(int d, int upper) {
        return upper & -4096 | d << 7 | 55;
    }

    static int auipc(int d, int upper) {
        return upper & -4096 | d << 7 | 23;
    }

    static int load(int f, int d, int a, int imm) {
        return i(3, f, d, a, imm);
    }

    static int store(int f, int b, int a, int imm) {
        return (imm >> 5) << 25 | b << 20 | a << 15 | f << 12 | (imm & 31) << 7 | 35;
    }

    static int sw(int b, int a, int imm) {
        return store(2, b, a, imm);
    }

    static int jal(int d, int offset) {
        return (offset >> 20 & 1) << 31 | (offset >> 1 & 1023) << 21 | (offset >> 11 & 1) << 20
            | (offset >> 12 & 255) << 12 | d << 7 | 111;
    }

    static int jalr(int d, int a, int imm) {
        return i(103, 0, d, a, imm);
    }

    static int branch(int f, int a, int b, int offset) {
        return (offset >> 12 & 1) << 31 | (offset >> 5 & 63) << 25 | b << 20 | a << 15 | f << 12
            | (offset >> 1 & 15) << 8 | (offset >> 11 & 1) << 7 | 99;
    }

    /** Words that set register d to v, whatever v is. */
    static int[] set(int d, int v) {
        int low = v << 20 >> 20;
        return new int[] {Asm.lui(d, v - low), Asm.addi(d, d, low)};
    }

    static int[] words(int... words) {
        return words;
    }

    static int[] join(int[]... parts) {
        int n = 0;
        for (int[] p : parts) {
            n += p.length;
        }
        int[] all = new int[n];
        n = 0;
        for (int[] p : parts) {
            System.arraycopy(p, 0, all, n, p.length);
            n += p.length;
        }
        return all;
    }

    /** Feeds the words, lowest byte first, and leaves just them in the tray. */
    static void feed(SensorNode x, int... words) {
        for (int i = 0; i < words.length; i += 5) {
            x.feed(at(words, i), at(words, i + 1), at(words, i + 2), at(words, i + 3), at(words, i + 4));
        }
        x.end(4 * words.length);
    }

    private static int at(int[] words, int i) {
        return i < words.length ? Integer.reverseBytes(words[i]) : 0;
    }

    /** A node with the words at the beginning of its store, not yet on. */
    static SensorNode node(int r, int g, int l, int k, int... words) {
        SensorNode x = new SensorNode();
        feed(x, words);
        x.install(r, g, l, k, STORE);
        return x;
    }

    /** The same, and power comes. */
    static SensorNode running(int r, int g, int l, int k, int... words) {
        SensorNode x = node(r, g, l, k, words);
        x.on();
        return x;
    }

    /** One act after the other until so many instructions are done, or the guest ends. */
    static void until(SensorNode x, int count) {
        for (int i = 0; i < 400 && x.register(35) < count && x.state() < 6; i++) {
            x.go(1);
        }
    }
}
