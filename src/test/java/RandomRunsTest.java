import java.util.Random;

/** Random programs, calls and cuts, each answer against the reference; no call may throw. */
public final class RandomRunsTest {
    private static final int[] EDGES = {
        0, 1, -1, 2, 3, 4, 6, 7, 8, 15, 16, 31, 32, 35, 36, 37, 63, 64, 65, 255, 399, 400, 401, 1000, 4096, 8192,
        8193, 8200, 8201, 20000, 20001, 65535, 65536, 65537, 1 << 30, (1 << 30) - 1, (1 << 30) + 8191,
        (1 << 30) + 8192, Integer.MAX_VALUE, Integer.MIN_VALUE
    };

    private final Check check = new Check("RandomRunsTest");
    private final Random random;
    private final SensorNode x = new SensorNode();
    private final ReferenceNode y = new ReferenceNode();
    private final int run;
    private int calls;

    private RandomRunsTest(int run) {
        this.run = run;
        random = new Random(7919L * run + 17);
    }

    public static void main(String[] args) {
        int runs = args.length > 0 ? Integer.parseInt(args[0]) : 1000;
        int wrong = 0;
        int[] endings = new int[15];
        int[] totals = new int[7];
        for (int run = 0; run < runs && wrong == 0; run++) {
            RandomRunsTest test = new RandomRunsTest(run);
            test.perform();
            wrong += test.check.wrong();
            endings[test.y.state()]++;
            for (int i = 0; i < 7; i++) {
                totals[i] += test.y.counts[i];
            }
        }
        System.out.println("RandomRunsTest: " + runs + " runs, states at the end "
            + java.util.Arrays.toString(endings) + ", counts " + java.util.Arrays.toString(totals));
        if (wrong != 0) {
            System.exit(1);
        }
    }

    private void due(String call, long got, long want) {
        calls++;
        check.due("run " + run + " call " + calls + ": " + call, got, want);
    }

    private void perform() {
        if (random.nextInt(4) == 0) {
            for (int i = 0; i < 30; i++) {
                strangeCall();
            }
        }
        for (int i = 0; i < 2 && check.wrong() == 0; i++) {
            installProgram();
            for (int j = 0; j < 60 && check.wrong() == 0; j++) {
                ordinaryCall();
                if (random.nextInt(8) == 0) {
                    strangeCall();
                }
                lookAtSome();
            }
            lookAtAll();
        }
    }

    private int pick(int... of) {
        return of[random.nextInt(of.length)];
    }

    private void installProgram() {
        int style = random.nextInt(4);
        int r = 4 * ((style == 3 ? 16 : 1) + random.nextInt(random.nextInt(5) == 0 ? 1009 : 12));
        int g = 4 * (50 + random.nextInt(random.nextInt(5) == 0 ? 1999 : 40));
        int l = random.nextInt(3) == 0 ? 8 + random.nextInt(1017) : 8;
        int k = random.nextInt(3) == 0 ? 16 + random.nextInt(65521) : 16 + random.nextInt(40);
        int[] words = program(style, g);
        int length = words.length;
        for (int i = 0; i < length; i += 5) {
            int[] w = new int[5];
            for (int j = 0; j < 5; j++) {
                w[j] = i + j < length ? Integer.reverseBytes(words[i + j]) : random.nextInt();
            }
            due("feed", x.feed(w[0], w[1], w[2], w[3], w[4]), y.feed(w[0], w[1], w[2], w[3], w[4]));
        }
        int end = 4 * length;
        due("end", x.end(end) ? 1 : 0, y.end(end) ? 1 : 0);
        int pc = random.nextInt(20) == 0 ? pick(EDGES) : 1 << 30;
        due("install", x.install(r, g, l, k, pc), y.install(r, g, l, k, pc));
        for (int i = random.nextInt(6); i > 0; i--) {
            int v = random.nextInt();
            due("sample", x.sample(v), y.sample(v));
        }
        due("on", x.on() ? 1 : 0, y.on() ? 1 : 0);
    }

    private int[] program(int style, int g) {
        int length = style == 3 ? 37 + random.nextInt(10) : 8 + random.nextInt(Math.min(g / 4 - 7, 60));
        int[] words = new int[length];
        words[0] = Asm.lui(5, 1 << 30);
        words[1] = Asm.li(17, 1 + random.nextInt(2));
        words[2] = Asm.li(11, random.nextInt(20));
        for (int i = 3; i < length; i++) {
            words[i] = word(i, length, g, style);
        }
        int back = style == 3 ? moveToRam(words) : length - 1 - random.nextInt(length - 3);
        if (style != 0) {
            words[length - 1] = Asm.jal(0, -4 * back);
        }
        return words;
    }

    /** The last words are brought to RAM, behind those that are often written, and go on there. */
    private int moveToRam(int[] words) {
        int moved = 8 + random.nextInt(4);
        int from = words.length - moved;
        int at = from - 1 - 2 * moved;
        for (int i = 0; i < moved; i++) {
            words[at + 2 * i] = Asm.load(2, 6, 5, 4 * (from + i));
            words[at + 2 * i + 1] = Asm.sw(6, 0, 12 + 4 * i);
        }
        words[from - 1] = Asm.jalr(1, 0, 12 + random.nextInt(2));
        return moved - 1;
    }

    /** Style 0 is wild; the others keep x5 (the store's place), and so live longer; 3 goes on in RAM. */
    private int word(int i, int length, int g, int style) {
        int d = style == 0 ? random.nextInt(32) : pick(0, 1, 6, 7, 8, 9, 12, 13, 10);
        int a = style == 0 ? random.nextInt(32) : pick(0, 5, 6, 7, 8, 9, 10);
        int b = random.nextInt(32);
        int place = 4 * length + random.nextInt(Math.max(1, Math.min(g, 2048) - 4 * length));
        switch (random.nextInt(style == 0 ? 20 : 16)) {
            case 0:
            case 1:
                return Asm.store(2, b, 5, place & -4);
            case 2:
                return Asm.store(0, b, 5, place);
            case 3:
                return Asm.store(1, b, 5, place & -2);
            case 4:
                return Asm.store(random.nextInt(3), b, 0, pick(0, 4, 0, 0, 8));
            case 5:
                return Asm.load(pick(0, 1, 2, 4, 5), d, 5, place & -4);
            case 6:
                return Asm.load(pick(0, 1, 2, 4, 5), d, 0, pick(0, 4, 0, 0, 8));
            case 7:
                return Asm.CALL;
            case 8:
                return Asm.li(17, style == 0 ? random.nextInt(5) : pick(1, 1, 1, 2, 2, 2, 1, 2, 1, 2, 1, 2, 3));
            case 9:
                return random.nextBoolean() ? Asm.addi(10, pick(0, 5), pick(0, 0, 1, 4)) : Asm.li(11, style == 0 ? random.nextInt(90) : pick(0, 1, 2, 3, 4, 5, 9, 33, 64, 65));
            case 10:
                return Asm.branch(pick(0, 1, 4, 5, 6, 7), a, b, 4 * (1 + random.nextInt(Math.max(1, length - i - 1))));
            case 11:
                return Asm.r(random.nextInt(8), 0, d, a, b);
            case 12:
                return random.nextBoolean() ? Asm.r(0, 32, d, a, b) : Asm.r(5, 32, d, a, b);
            case 13:
                return Asm.i(19, pick(0, 2, 3, 4, 6, 7), d, a, random.nextInt());
            case 14:
                return Asm.i(19, pick(1, 5), d, a, random.nextInt(32));
            case 15:
                return pick(Asm.lui(d, random.nextInt()), Asm.auipc(d, random.nextInt()), Asm.i(19, 5, d, a, 1024 + b), 15);
            case 16:
                return random.nextInt();
            case 17:
                return random.nextInt() & -128 | pick(55, 23, 111, 103, 99, 3, 35, 19, 51, 15, 115);
            case 18:
                return Asm.jalr(d, 5, 4 * random.nextInt(length) + pick(0, 0, 1, 2));
            default:
                return Asm.jal(d, 4 * (random.nextInt(length) - i));
        }
    }

    private void ordinaryCall() {
        int which = random.nextInt(10);
        if (which < 7) {
            int n = random.nextInt(pick(3, 10, 60, 300, 300));
            due("go(" + n + ")", x.go(n), y.go(n));
        } else if (which < 9) {
            due("cut", x.cut() ? 1 : 0, y.cut() ? 1 : 0);
            due("on", x.on() ? 1 : 0, y.on() ? 1 : 0);
        } else {
            int n = random.nextInt(400);
            due("plain(" + n + ")", x.plain(n), y.plain(n));
        }
    }

    private int strange() {
        return random.nextBoolean() ? pick(EDGES) : random.nextInt(5) == 0 ? random.nextInt() : random.nextInt(100);
    }

    private void strangeCall() {
        int a = strange();
        int b = strange();
        switch (random.nextInt(19)) {
            case 0 -> due("feed", x.feed(a, b, a, b, a), y.feed(a, b, a, b, a));
            case 1 -> due("end(" + a + ")", x.end(a) ? 1 : 0, y.end(a) ? 1 : 0);
            case 2 -> {
                if (random.nextInt(4) == 0) {
                    int l = strange();
                    int k = strange();
                    due("install", x.install(a, b, l, k, 0), y.install(a, b, l, k, 0));
                }
            }
            case 3 -> due("sample", x.sample(a), y.sample(a));
            case 4 -> due("on", x.on() ? 1 : 0, y.on() ? 1 : 0);
            case 5 -> due("cut", x.cut() ? 1 : 0, y.cut() ? 1 : 0);
            case 6 -> {
                int n = random.nextInt(3) == 0 ? a : a & 511;
                due("go(" + n + ")", x.go(n), y.go(n));
            }
            case 7 -> {
                int n = random.nextInt(3) == 0 ? a : a & 511;
                due("plain(" + n + ")", x.plain(n), y.plain(n));
            }
            case 8 -> due("register(" + a + ")", x.register(a), y.register(a));
            case 9 -> due("ram(" + a + ")", x.ram(a), y.ram(a));
            case 10 -> due("word(" + a + ")", x.word(a), y.word(a));
            case 11 -> due("frame(" + a + ", " + b + ")", x.frame(a, b), y.frame(a, b));
            case 12 -> due("heard(" + a + ", " + b + ")", x.heard(a, b), y.heard(a, b));
            case 13 -> due("count(" + a + ")", x.count(a), y.count(a));
            case 14 -> due("plainly(" + a + ")", x.plainly(a), y.plainly(a));
            case 15 -> due("plainByte(" + a + ")", x.plainByte(a), y.plainByte(a));
            case 16 -> due("plainFrame(" + a + ")", x.plainFrame(a), y.plainFrame(a));
            case 17 -> due("plainHeard(" + a + ", " + b + ")", x.plainHeard(a, b), y.plainHeard(a, b));
            default -> due("words", x.words(), y.words());
        }
    }

    private void lookAtSome() {
        due("state", x.state(), y.state());
        due("frames", x.frames(), y.frames());
        for (int i = 32; i <= 36; i++) {
            due("register(" + i + ")", x.register(i), y.register(i));
        }
        for (int i = -1; i <= 7; i++) {
            due("count(" + i + ")", x.count(i), y.count(i));
        }
        for (int i = 0; i < 3; i++) {
            due("word(" + i + ")", x.word(i), y.word(i));
        }
        due("strays", x.strays(), y.strays());
    }

    private void lookAtAll() {
        due("words", x.words(), y.words());
        for (int i = -1; i <= y.words(); i++) {
            due("word(" + i + ")", x.word(i), y.word(i));
        }
        for (int i = -1; i < 40; i++) {
            due("register(" + i + ")", x.register(i), y.register(i));
            due("plainly(" + i + ")", x.plainly(i), y.plainly(i));
        }
        for (int i = -1; i <= 4096; i++) {
            due("ram(" + i + ")", x.ram(i), y.ram(i));
            due("plainByte(" + i + ")", x.plainByte(i), y.plainByte(i));
        }
        for (int i = -1; i <= 8192; i++) {
            due("plainByte(2^30 + " + i + ")", x.plainByte(i + (1 << 30)), y.plainByte(i + (1 << 30)));
        }
        for (int i = -1; i <= 401; i++) {
            due("plainFrame(" + i + ")", x.plainFrame(i), y.plainFrame(i));
            for (int k = -1; k < 4; k++) {
                due("frame(" + i + ", " + k + ")", x.frame(i, k), y.frame(i, k));
            }
            for (int k = -1; k <= (i < 60 ? 65 : 5); k++) {
                due("heard(" + i + ", " + k + ")", x.heard(i, k), y.heard(i, k));
                due("plainHeard(" + i + ", " + k + ")", x.plainHeard(i, k), y.plainHeard(i, k));
            }
        }
    }
}
