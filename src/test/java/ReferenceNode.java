import java.util.ArrayDeque;
import java.util.ArrayList;
import java.util.Arrays;
import java.util.List;

/**
 * The document once more, written the other way round: memory in bytes, every instruction's acts laid
 * out in a queue before the first of them is done, entries of the log found by search.
 */
final class ReferenceNode {
    /** A guest's registers and how its bytes are reached. */
    static final class Cpu {
        final int[] x = new int[32];
        int pc;
        int index;
        int sent;
        byte[] ram;

        int get(int n) {
            return n == 0 ? 0 : x[n];
        }

        void set(int n, int v) {
            if (n != 0) {
                x[n] = v;
            }
        }
    }

    /** What an instruction would do. */
    static final class Step {
        int ending;
        int d;
        int v;
        int next;
        boolean samples;
        boolean sends;
        boolean stores;
        long at;
        byte[] bytes;
    }

    interface Peek {
        /** The byte at an address without sign, -1 if there is none. */
        int at(long address);
    }

    static final class Frame {
        int number;
        int cuts;
        byte[] bytes;
    }

    final ArrayList<Integer> tray = new ArrayList<>();
    int fed;
    boolean installed;
    int r;
    int g;
    int l;
    int k;
    int pc;
    int[] first;
    int[] store;
    final ArrayList<Integer> samples = new ArrayList<>();
    boolean hadPower;
    boolean power;
    Cpu cpu;
    int count;
    int since;
    int ending;
    String doing = "ready";
    final ArrayDeque<Runnable> acts = new ArrayDeque<>();
    final ArrayList<Frame> frames = new ArrayList<>();
    final int[] counts = new int[7];

    Cpu plainCpu;
    int[] plainStore;
    int plainEnding;
    final ArrayList<Frame> plainFrames = new ArrayList<>();

    int feed(int a, int b, int c, int d, int e) {
        if (tray.size() + 20 > 8200 || fed + 20 > 65536) {
            return -1;
        }
        for (int w : new int[] {a, b, c, d, e}) {
            for (int i = 3; i >= 0; i--) {
                tray.add(w >> 8 * i & 255);
            }
        }
        fed += 20;
        return tray.size();
    }

    boolean end(int n) {
        if (n < 0 || n > tray.size()) {
            return false;
        }
        while (tray.size() > n) {
            tray.remove(tray.size() - 1);
        }
        return true;
    }

    int install(int nr, int ng, int nl, int nk, int npc) {
        List<Integer> bytes = new ArrayList<>(tray);
        tray.clear();
        if (nr % 4 != 0 || nr < 4 || nr > 4096 || ng % 4 != 0 || ng < 4 || ng > 8192 || nl < 8 || nl > 1024
            || nk < 16 || nk > 65536) {
            return -1;
        }
        if (bytes.size() > ng) {
            return -2;
        }
        r = nr;
        g = ng;
        l = nl;
        k = nk;
        pc = npc;
        first = new int[g / 4];
        for (int i = 0; i < bytes.size(); i++) {
            first[i / 4] += bytes.get(i) << 8 * (i % 4);
        }
        store = new int[guestStart() + g / 4];
        System.arraycopy(first, 0, store, guestStart(), g / 4);
        store[3 + 32] = pc;
        installed = true;
        samples.clear();
        hadPower = false;
        power = false;
        acts.clear();
        frames.clear();
        Arrays.fill(counts, 0);
        plainCpu = null;
        plainFrames.clear();
        return 0;
    }

    int bufferWords() {
        return 36 + r / 4;
    }

    int buffer(int generation) {
        return generation % 2 == 0 ? 3 : 3 + bufferWords();
    }

    int logStart() {
        return 3 + 2 * bufferWords();
    }

    int guestStart() {
        return logStart() + 2 * l;
    }

    int sample(int v) {
        if (!installed || hadPower || samples.size() == 1000) {
            return -1;
        }
        samples.add(v);
        return samples.size();
    }

    boolean on() {
        if (!installed || power) {
            return false;
        }
        power = true;
        hadPower = true;
        ending = 0;
        since = 0;
        cpu = new Cpu();
        cpu.ram = new byte[r];
        int from = buffer(store[0]);
        for (int i = 1; i < 32; i++) {
            cpu.x[i] = store[from + i];
        }
        cpu.pc = store[from + 32];
        cpu.index = store[from + 33];
        cpu.sent = store[from + 34];
        count = store[from + 35];
        for (int i = 0; i < r; i++) {
            cpu.ram[i] = (byte) (store[from + 36 + i / 4] >> 8 * (i % 4));
        }
        layOutBoot();
        return true;
    }

    private void layOutBoot() {
        acts.clear();
        doing = "boot";
        int generation = store[0];
        int entries = store[1] & 0xFFFF;
        if (store[1] >>> 16 != generation) {
            acts.add(() -> write(1, generation << 16));
        } else if (entries > 0) {
            for (int e = entries - 1; e >= 0; e--) {
                int at = logStart() + 2 * e;
                acts.add(() -> {
                    write(store[at], store[at + 1]);
                    counts[6]++;
                });
            }
            acts.add(() -> write(1, generation << 16));
        }
    }

    private void write(int w, int v) {
        store[w] = v;
        counts[1]++;
    }

    boolean cut() {
        if (!installed || !power) {
            return false;
        }
        power = false;
        counts[5]++;
        counts[3] += since;
        acts.clear();
        cpu = null;
        return true;
    }

    int go(int n) {
        if (n < 0 || n > 20000) {
            return -1;
        }
        int done = 0;
        while (done < n && installed && power && ending == 0) {
            if (acts.isEmpty()) {
                layOut();
            }
            acts.remove().run();
            counts[0]++;
            done++;
        }
        return done;
    }

    private int guestByte(int[] words, int start, byte[] ram, long address) {
        if (address >= 0 && address < r) {
            return ram[(int) address] & 255;
        }
        long off = address - (1L << 30);
        if (off >= 0 && off < g) {
            return words[start + (int) off / 4] >> 8 * (int) (off % 4) & 255;
        }
        return -1;
    }

    private boolean hasEntry(int w) {
        for (int e = 0; e < (store[1] & 0xFFFF); e++) {
            if (store[logStart() + 2 * e] == w) {
                return true;
            }
        }
        return false;
    }

    private void layOut() {
        Step s = look(cpu, address -> guestByte(store, guestStart(), cpu.ram, address));
        boolean inStore = s.ending == 0 && s.stores && s.at >= 1L << 30;
        int w = inStore ? guestStart() + (int) ((s.at - (1L << 30)) / 4) : -1;
        boolean fresh = inStore && !hasEntry(w);
        if (since == k || s.ending == 0 && s.sends && since > 0 || fresh && (store[1] & 0xFFFF) == l) {
            layOutCheckpoint();
            return;
        }
        doing = "instruction";
        if (s.ending != 0) {
            acts.add(() -> ending = s.ending);
            return;
        }
        if (s.sends && store[2] != cpu.sent + 1) {
            acts.add(() -> send(frames, cpu.sent + 1, s.bytes));
            acts.add(() -> write(2, cpu.sent + 1));
        }
        if (fresh) {
            int e = store[1] & 0xFFFF;
            acts.add(() -> write(logStart() + 2 * e, w));
            acts.add(() -> write(logStart() + 2 * e + 1, store[w]));
            acts.add(() -> write(1, store[0] << 16 | e + 1));
        }
        acts.add(() -> {
            if (inStore) {
                counts[1]++;
            }
            apply(cpu, s, store, guestStart());
            count++;
            since++;
            counts[2]++;
        });
    }

    private void layOutCheckpoint() {
        doing = "checkpoint";
        int generation = (store[0] + 1) % 65536;
        int to = buffer(generation);
        for (int i = 0; i < bufferWords(); i++) {
            int n = i;
            acts.add(() -> write(to + n, bufferWord(n)));
        }
        acts.add(() -> {
            write(0, generation);
            since = 0;
            counts[4]++;
        });
        acts.add(() -> write(1, generation << 16));
    }

    private int bufferWord(int n) {
        if (n < 32) {
            return cpu.get(n);
        }
        if (n < 36) {
            return new int[] {cpu.pc, cpu.index, cpu.sent, count}[n - 32];
        }
        int v = 0;
        for (int i = 3; i >= 0; i--) {
            v = v << 8 | cpu.ram[4 * (n - 36) + i] & 255;
        }
        return v;
    }

    private void send(List<Frame> to, int number, byte[] bytes) {
        Frame frame = new Frame();
        frame.number = number;
        frame.cuts = counts[5];
        frame.bytes = bytes;
        to.add(frame);
    }

    private void apply(Cpu c, Step s, int[] words, int start) {
        if (s.stores) {
            for (int i = 0; i < s.bytes.length; i++) {
                long at = s.at + i;
                if (at < r) {
                    c.ram[(int) at] = s.bytes[i];
                } else {
                    int off = (int) (at - (1L << 30));
                    int shift = 8 * (off % 4);
                    int w = start + off / 4;
                    words[w] = words[w] & ~(255 << shift) | (s.bytes[i] & 255) << shift;
                }
            }
        }
        c.set(s.d, s.v);
        if (s.samples) {
            c.index++;
        }
        if (s.sends) {
            c.sent++;
        }
        c.pc = s.next;
    }

    private static long unsigned(int v) {
        return v & 0xFFFFFFFFL;
    }

    private static int bits(int w, int from, int to) {
        return (int) (unsigned(w) >> from & (1L << to - from + 1) - 1);
    }

    private static int signed(int v, int width) {
        return v << 32 - width >> 32 - width;
    }

    private Step look(Cpu c, Peek peek) {
        Step s = new Step();
        s.next = c.pc + 4;
        if (c.pc % 4 != 0) {
            s.ending = 12;
            return s;
        }
        if (peek.at(unsigned(c.pc)) < 0) {
            s.ending = 13;
            return s;
        }
        int w = 0;
        for (int i = 3; i >= 0; i--) {
            w = w << 8 | peek.at(unsigned(c.pc) + i);
        }
        int a = c.get(bits(w, 15, 19));
        int b = c.get(bits(w, 20, 24));
        int f = bits(w, 12, 14);
        int h = bits(w, 25, 31);
        int imm = signed(bits(w, 20, 31), 12);
        s.d = bits(w, 7, 11);
        boolean known = true;
        switch (bits(w, 0, 6)) {
            case 55 -> s.v = bits(w, 12, 31) * 4096;
            case 23 -> s.v = c.pc + bits(w, 12, 31) * 4096;
            case 111 -> {
                int j = bits(w, 31, 31) * (1 << 20) + bits(w, 12, 19) * 4096 + bits(w, 20, 20) * 2048
                    + bits(w, 21, 30) * 2;
                s.v = c.pc + 4;
                turn(s, c.pc + signed(j, 21));
            }
            case 103 -> {
                known = f == 0;
                s.v = c.pc + 4;
                turn(s, a + imm & ~1);
            }
            case 99 -> {
                s.d = 0;
                int off = bits(w, 31, 31) * 4096 + bits(w, 7, 7) * 2048 + bits(w, 25, 30) * 32 + bits(w, 8, 11) * 2;
                known = f != 2 && f != 3;
                boolean taken = switch (f) {
                    case 0 -> a == b;
                    case 1 -> a != b;
                    case 4 -> a < b;
                    case 5 -> a >= b;
                    case 6 -> unsigned(a) < unsigned(b);
                    case 7 -> unsigned(a) >= unsigned(b);
                    default -> false;
                };
                if (taken) {
                    turn(s, c.pc + signed(off, 13));
                }
            }
            case 3 -> {
                known = f == 0 || f == 1 || f == 2 || f == 4 || f == 5;
                if (known) {
                    load(s, f, unsigned(a + imm), peek);
                }
            }
            case 35 -> {
                s.d = 0;
                known = f < 3;
                if (known) {
                    store(s, f, unsigned(a + signed(h * 32 + bits(w, 7, 11), 12)), b, peek);
                }
            }
            case 19 -> {
                known = !(f == 1 && h != 0) && !(f == 5 && h != 0 && h != 32);
                s.v = f == 1 || f == 5 ? alu(f, h, a, bits(w, 20, 24)) : alu(f, 0, a, imm);
            }
            case 51 -> {
                known = h == 0 || h == 32 && (f == 0 || f == 5);
                s.v = alu(f, h, a, b);
            }
            case 15 -> {
                s.d = 0;
                known = f == 0;
            }
            case 115 -> known = w == 115 && call(s, c, peek);
            default -> known = false;
        }
        if (!known) {
            s.ending = 11;
        }
        return s;
    }

    private static void turn(Step s, int to) {
        s.next = to;
        if (to % 4 != 0) {
            s.ending = 12;
        }
    }

    private static void reach(Step s, long at, int n, boolean aligned, Peek peek) {
        if (aligned && at % n != 0) {
            s.ending = 12;
            return;
        }
        for (int i = 0; i < n; i++) {
            if (peek.at(at + i) < 0) {
                s.ending = 13;
            }
        }
    }

    private static void load(Step s, int f, long at, Peek peek) {
        int n = f % 4 == 0 ? 1 : f % 4 == 1 ? 2 : 4;
        reach(s, at, n, true, peek);
        if (s.ending == 0) {
            for (int i = n - 1; i >= 0; i--) {
                s.v = s.v * 256 + peek.at(at + i);
            }
            if (f < 2) {
                s.v = signed(s.v, 8 * n);
            }
        }
    }

    private static void store(Step s, int f, long at, int b, Peek peek) {
        int n = f == 0 ? 1 : f == 1 ? 2 : 4;
        reach(s, at, n, true, peek);
        s.stores = true;
        s.at = at;
        s.bytes = new byte[n];
        for (int i = 0; i < n; i++) {
            s.bytes[i] = (byte) (b >> 8 * i);
        }
    }

    private static int alu(int f, int h, int a, int b) {
        return switch (f) {
            case 0 -> h == 32 ? a - b : a + b;
            case 1 -> (int) (unsigned(a) << (b & 31));
            case 2 -> a < b ? 1 : 0;
            case 3 -> unsigned(a) < unsigned(b) ? 1 : 0;
            case 4 -> (a | b) & ~(a & b);
            case 5 -> h == 32 ? (int) ((long) a >> (b & 31)) : (int) (unsigned(a) >> (b & 31));
            case 6 -> a | b;
            default -> a & b;
        };
    }

    private boolean call(Step s, Cpu c, Peek peek) {
        switch (c.get(17)) {
            case 1 -> {
                s.samples = true;
                s.d = 10;
                s.v = unsigned(c.index) < samples.size() ? samples.get(c.index) : 0;
            }
            case 2 -> {
                if (unsigned(c.get(11)) > 64) {
                    s.ending = 14;
                    return true;
                }
                int n = c.get(11);
                long at = unsigned(c.get(10));
                reach(s, at, n, false, peek);
                if (s.ending == 0) {
                    s.sends = true;
                    s.d = 10;
                    s.v = c.sent + 1;
                    s.bytes = new byte[n];
                    for (int i = 0; i < n; i++) {
                        s.bytes[i] = (byte) peek.at(at + i);
                    }
                }
            }
            case 3 -> s.ending = 6;
            default -> {
                return false;
            }
        }
        return true;
    }

    int state() {
        if (!installed) {
            return 0;
        }
        if (!power) {
            return 1;
        }
        if (ending != 0) {
            return ending;
        }
        if (acts.isEmpty()) {
            return 3;
        }
        return doing.equals("boot") ? 2 : doing.equals("checkpoint") ? 4 : 5;
    }

    int register(int i) {
        if (!installed || !power || i < 0 || i > 36) {
            return 0;
        }
        return i < 32 ? cpu.get(i) : new int[] {cpu.pc, cpu.index, cpu.sent, count, since}[i - 32];
    }

    int ram(int a) {
        return installed && power && a >= 0 && a < r ? cpu.ram[a] & 255 : -1;
    }

    int words() {
        return installed ? store.length : 0;
    }

    int word(int w) {
        return installed && w >= 0 && w < store.length ? store[w] : 0;
    }

    int frames() {
        return frames.size();
    }

    int frame(int i, int what) {
        if (i < 0 || i >= frames.size() || i >= 400) {
            return -1;
        }
        Frame f = frames.get(i);
        return what == 0 ? f.number : what == 1 ? f.bytes.length : what == 2 ? f.cuts : -1;
    }

    int heard(int i, int n) {
        return heardOf(frames, i, n);
    }

    private static int heardOf(List<Frame> of, int i, int n) {
        if (i < 0 || i >= of.size() || i >= 400 || n < 0 || n >= of.get(i).bytes.length) {
            return -1;
        }
        return of.get(i).bytes[n] & 255;
    }

    int count(int what) {
        return installed && what >= 0 && what < 7 ? counts[what] : -1;
    }

    int plain(int n) {
        if (!installed || n < 0 || n > 20000) {
            return -1;
        }
        plainCpu = new Cpu();
        plainCpu.ram = new byte[r];
        plainCpu.pc = pc;
        plainStore = first.clone();
        plainFrames.clear();
        for (int done = 0;; done++) {
            Step s = look(plainCpu, address -> guestByte(plainStore, 0, plainCpu.ram, address));
            plainEnding = s.ending;
            if (done == n || s.ending != 0) {
                return done;
            }
            if (s.sends) {
                send(plainFrames, plainCpu.sent + 1, s.bytes);
            }
            apply(plainCpu, s, plainStore, 0);
        }
    }

    int plainly(int i) {
        if (plainCpu == null || i < 0 || i > 35) {
            return 0;
        }
        return i < 32 ? plainCpu.get(i)
            : new int[] {plainCpu.pc, plainCpu.index, plainCpu.sent, plainEnding}[i - 32];
    }

    int plainByte(int a) {
        return plainCpu == null ? -1 : guestByte(plainStore, 0, plainCpu.ram, unsigned(a));
    }

    int plainFrame(int i) {
        return i < 0 || i >= plainFrames.size() || i >= 400 ? -1 : plainFrames.get(i).bytes.length;
    }

    int plainHeard(int i, int n) {
        return heardOf(plainFrames, i, n);
    }

    int strays() {
        return 0;
    }
}
