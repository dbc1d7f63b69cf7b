import java.util.Arrays;
import java.util.Random;

/** Runs of calls on fonts made at random, right ones and broken ones: GlyphLines answers as Plain does. */
public final class RandomRunsTest {
    // A run stays below 512 calls: what later ones answer is free.
    private static final int RUNS = 2000;
    private static final int[] EMS = {64, 65, 100, 128, 256, 333, 1000, 2047, 2048};

    private final Random random;
    private GlyphLines lines;
    private Plain plain;
    private int loads = 0;

    private RandomRunsTest(long seed) {
        random = new Random(seed);
    }

    public static void main(String[] args) {
        int loads = 0;
        for (int run = 0; run < RUNS; run++) {
            RandomRunsTest test = new RandomRunsTest(run);
            test.run();
            loads += test.loads;
        }
        Check.due("enough files were right", loads > RUNS / 2, true);
        Check.end();
    }

    private int upTo(int most) {
        return random.nextInt(most + 1);
    }

    private boolean once(int in) {
        return random.nextInt(in) == 0;
    }

    private void run() {
        lines = new GlyphLines();
        plain = new Plain();
        for (int word : FontFile.words(file())) {
            both("feed", () -> lines.feed(word), () -> plain.feed(word));
        }
        load();
        ask();
        for (int k = 0; k < 6; k++) {
            spoil();
            load();
        }
        ask();
    }

    private void both(String call, Check.Call one, Check.Call other) {
        String got = Check.told(one);
        String due = Check.told(other);
        if (!got.equals(due)) {
            Check.due(call + ", " + got + " and not " + due, 1, 0);
        }
    }

    private void load() {
        boolean checked = once(4);
        int found = lines.load(checked);
        Check.due("load(" + checked + ")", found, plain.load(checked));
        loads += found > 0 ? 1 : 0;
    }

    private void spoil() {
        for (int k = upTo(2); k >= 0; k--) {
            int place = once(3) ? upTo(140) : upTo(700);
            int value = once(2) ? upTo(255) : upTo(4);
            both("put", () -> lines.put(place, value), () -> plain.put(place, value));
        }
        if (once(20)) {
            int left = 1 + upTo(600);
            both("cut", () -> lines.cut(left), () -> plain.cut(left));
        }
    }

    private void ask() {
        for (int k = 0; k < 6; k++) {
            int c = once(2) ? upTo(20) : upTo(65536) - 1;
            both("glyph(" + c + ")", () -> lines.glyph(c), () -> plain.glyph(c));
            int left = upTo(7) - 1;
            int right = upTo(7) - 1;
            both("kerning", () -> lines.kerning(left, right), () -> plain.kerning(left, right));
            int i = upTo(30) - 1;
            int what = upTo(5) - 1;
            both("point", () -> lines.point(left, i, what), () -> plain.point(left, i, what));
            both("measure", () -> lines.measure(right, what), () -> plain.measure(right, what));
        }
        paint();
    }

    private void paint() {
        if (once(2)) {
            both("wipe", () -> lines.wipe(), () -> plain.wipe());
        }
        for (int k = upTo(5); k >= 0; k--) {
            int c = once(20) ? upTo(65537) - 1 : upTo(8);
            both("type", () -> lines.type(c) ? 1 : 0, () -> plain.type(c) ? 1 : 0);
        }
        int ppem = 3 + upTo(22);
        both("paint(" + ppem + ")", () -> lines.paint(ppem), () -> plain.paint(ppem));
        for (int r = 0; r < 24; r++) {
            int row = r;
            both("row(" + r + ")", () -> lines.row(row), () -> plain.row(row));
        }
    }

    private byte[] file() {
        byte[] file;
        do {
            file = font().done();
        } while (file.length > 1200);
        return file;
    }

    private FontFile font() {
        int em = EMS[random.nextInt(EMS.length)];
        byte[][] glyphs = new byte[1 + upTo(4)][];
        for (int g = 0; g < glyphs.length; g++) {
            glyphs[g] = once(3) && g > 0 ? composed(g, em) : once(8) ? new byte[0] : simple(em);
            glyphs[g] = Arrays.copyOf(glyphs[g], glyphs[g].length + (glyphs[g].length & 1));
        }
        FontFile font = FontFile.of(glyphs).table("head", FontFile.head(em, 1));
        if (once(3)) {
            font.table("head", FontFile.head(em, 0)).table("loca", halves(glyphs));
        }
        Bytes widths = new Bytes();
        for (int g = 0; g < glyphs.length; g++) {
            widths.u16(upTo(em), 0);
        }
        font.table("hmtx", widths.done());
        if (once(2)) {
            font.put16("hhea", 34, 1 + upTo(glyphs.length - 1));
        }
        if (once(2)) {
            int less = -upTo(em / 2);
            font.table("kern", FontFile.kern(new int[] {upTo(3), upTo(3), less}, new int[] {0, 0, upTo(em)},
                    new int[] {upTo(1), upTo(1), less / 2}));
        }
        if (once(2)) {
            byte[] map = FontFile.cmap(FontFile.range(upTo(3), 3 + upTo(3), upTo(4) - 2, once(2) ? 0 : 4 + upTo(4)),
                    FontFile.range(upTo(10), 65535, -upTo(9), once(2) ? 0 : 2 + upTo(4)));
            font.table("cmap", new Bytes().all(map).u16(upTo(4), upTo(4), upTo(4), upTo(9)).done());
        }
        return font;
    }

    private static byte[] halves(byte[][] glyphs) {
        Bytes bytes = new Bytes().u16(0);
        int place = 0;
        for (byte[] glyph : glyphs) {
            place += glyph.length;
            bytes.u16(place / 2);
        }
        return bytes.done();
    }

    private int coordinate(int em) {
        int most = once(6) ? 4095 : em;
        return Math.min(4095, upTo(most * 2) - most / 2);
    }

    private byte[] simple(int em) {
        int contours = 1 + upTo(3);
        Bytes ends = new Bytes();
        int[] flags = new int[24];
        Bytes xs = new Bytes();
        Bytes ys = new Bytes();
        int points = 0;
        int x = 0;
        int y = 0;
        for (int k = 0; k < contours; k++) {
            for (int i = upTo(5); i >= 0; i--) {
                int nextX = once(5) ? x : coordinate(em);
                int nextY = once(5) ? y : coordinate(em);
                flags[points] = upTo(1) | axis(xs, nextX - x, 2, 16) | axis(ys, nextY - y, 4, 32);
                x = nextX;
                y = nextY;
                points++;
            }
            ends.u16(points - 1);
        }
        int passed = upTo(3);
        return new Bytes().u16(contours).zeros(8).all(ends.done()).u16(passed).zeros(passed)
                .all(written(flags, points)).all(xs.done()).all(ys.done()).done();
    }

    /** Flags that are alike are written once or more often; at the end they may hold for more than there are. */
    private byte[] written(int[] flags, int points) {
        Bytes bytes = new Bytes();
        int i = 0;
        while (i < points) {
            int next = i + 1;
            while (next < points && flags[next] == flags[i]) {
                next++;
            }
            if (once(next - i > 1 ? 2 : 6)) {
                bytes.u8(flags[i] | 8, next - i - 1 + (next == points ? upTo(2) : 0));
                i = next;
            } else {
                bytes.u8(flags[i]);
                i++;
            }
        }
        return bytes.done();
    }

    /** Writes a difference in one of the ways that there are for it, and answers its flags. */
    private int axis(Bytes bytes, int difference, int isShort, int other) {
        if (difference == 0 && once(2)) {
            return other;
        }
        if (Math.abs(difference) < 256 && !once(3)) {
            bytes.u8(Math.abs(difference));
            return isShort | (difference >= 0 ? other : 0);
        }
        bytes.u16(difference);
        return 0;
    }

    private byte[] composed(int glyphs, int em) {
        int parts = 1 + upTo(3);
        byte[][] all = new byte[parts][];
        for (int k = 0; k < parts; k++) {
            int[] factors = new int[new int[] {0, 1, 2, 4}[upTo(3)]];
            for (int f = 0; f < factors.length; f++) {
                factors[f] = upTo(32768) - 16384;
            }
            int flags = new int[] {0, 8, 64, 0, 128}[factors.length] | (k + 1 < parts ? 32 : 0);
            all[k] = once(3)
                    ? new Bytes().u16(flags | 2, upTo(glyphs - 1)).u8(upTo(255), upTo(255)).u16(factors).done()
                    : FontFile.part(flags, upTo(glyphs - 1), upTo(em) - em / 2, upTo(em) - em / 2, factors);
        }
        return FontFile.composed(all);
    }
}
