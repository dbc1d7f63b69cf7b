import java.nio.charset.StandardCharsets;
import java.util.Arrays;
import java.util.Map;
import java.util.TreeMap;

/** A font file in the making: a small right one at first, whose tables a test changes. */
final class FontFile {
    private final TreeMap<String, byte[]> tables = new TreeMap<>();

    /** Right in all, em 64, each glyph g being that of character g, and as wide as 10 + g. */
    static FontFile of(byte[]... glyphs) {
        FontFile font = new FontFile();
        int many = glyphs.length;
        Bytes glyf = new Bytes();
        Bytes loca = new Bytes().u32(0);
        Bytes hmtx = new Bytes();
        for (int g = 0; g < many; g++) {
            glyf.all(glyphs[g]);
            loca.u32(glyf.size());
            hmtx.u16(10 + g, 0);
        }
        font.table("glyf", glyf.done());
        font.table("loca", loca.done());
        font.table("hmtx", hmtx.done());
        font.table("head", head(64, 1));
        font.table("hhea", new Bytes().zeros(34).u16(many).done());
        font.table("maxp", new Bytes().u32(65536).u16(many).done());
        font.table("cmap", cmap(range(0, 65535, 0, 0)));
        return font;
    }

    static byte[] head(int em, int form) {
        return new Bytes().zeros(18).u16(em).zeros(30).u16(form).zeros(2).done();
    }

    static int[] range(int first, int last, int delta, int way) {
        return new int[] {first, last, delta, way};
    }

    /** One part 3, 1 at 12, of these ranges; what a test wants behind them, it adds. */
    static byte[] cmap(int[]... ranges) {
        int many = ranges.length;
        Bytes bytes = new Bytes().u16(0, 1, 3, 1).u32(12);
        bytes.u16(4, 16 + 8 * many, 0, 2 * many, 0, 0, 0);
        column(bytes, ranges, 1);
        bytes.u16(0);
        column(bytes, ranges, 0);
        column(bytes, ranges, 2);
        column(bytes, ranges, 3);
        return bytes.done();
    }

    private static void column(Bytes bytes, int[][] ranges, int which) {
        for (int[] range : ranges) {
            bytes.u16(range[which]);
        }
    }

    static byte[] kern(int[]... pairs) {
        Bytes bytes = new Bytes().u16(0, 1, 0, 14 + 6 * pairs.length, 1, pairs.length, 0, 0, 0);
        for (int[] pair : pairs) {
            bytes.u16(pair);
        }
        return bytes.done();
    }

    /** A simple glyph; each contour is x, y, on, x, y, on ..; every number is written as an S16. */
    static byte[] simple(int[]... contours) {
        Bytes ends = new Bytes();
        Bytes flags = new Bytes();
        Bytes xs = new Bytes();
        Bytes ys = new Bytes();
        int x = 0;
        int y = 0;
        int points = 0;
        for (int[] contour : contours) {
            for (int i = 0; i < contour.length; i += 3) {
                xs.u16(contour[i] - x);
                ys.u16(contour[i + 1] - y);
                flags.u8(contour[i + 2]);
                x = contour[i];
                y = contour[i + 1];
                points++;
            }
            ends.u16(points - 1);
        }
        return new Bytes().u16(contours.length).zeros(8).all(ends.done()).u16(0)
                .all(flags.done()).all(xs.done()).all(ys.done()).done();
    }

    /** A contour of points that are all ON; x, y, x, y .. */
    static int[] lines(int... coordinates) {
        int[] contour = new int[coordinates.length / 2 * 3];
        for (int i = 0; i < coordinates.length / 2; i++) {
            contour[3 * i] = coordinates[2 * i];
            contour[3 * i + 1] = coordinates[2 * i + 1];
            contour[3 * i + 2] = 1;
        }
        return contour;
    }

    static int[] box(int left, int bottom, int right, int top) {
        return lines(left, bottom, left, top, right, top, right, bottom);
    }

    /** A part with dx, dy as S16s; bits 0 and 1 are added to the flags. */
    static byte[] part(int flags, int glyph, int dx, int dy, int... factors) {
        return new Bytes().u16(flags | 3, glyph, dx, dy).u16(factors).done();
    }

    static byte[] composed(byte[]... parts) {
        Bytes bytes = new Bytes().u16(-1).zeros(8);
        for (byte[] part : parts) {
            bytes.all(part);
        }
        return bytes.done();
    }

    FontFile table(String name, byte[] bytes) {
        tables.put(name, bytes);
        return this;
    }

    FontFile without(String name) {
        tables.remove(name);
        return this;
    }

    byte[] table(String name) {
        return tables.get(name);
    }

    FontFile put16(String name, int place, int value) {
        byte[] bytes = tables.get(name).clone();
        bytes[place] = (byte) (value >> 8);
        bytes[place + 1] = (byte) value;
        return table(name, bytes);
    }

    FontFile shortened(String name, int size) {
        return table(name, Arrays.copyOf(tables.get(name), size));
    }

    FontFile longer(String name, byte[] more) {
        return table(name, new Bytes().all(tables.get(name)).all(more).done());
    }

    /** The file, its tables one behind the other, each at a place that 4 divides. */
    byte[] done() {
        Bytes directory = new Bytes().u32(65536).u16(tables.size()).zeros(6);
        Bytes body = new Bytes();
        int start = 12 + 16 * tables.size();
        for (Map.Entry<String, byte[]> table : tables.entrySet()) {
            byte[] bytes = table.getValue();
            byte[] name = table.getKey().getBytes(StandardCharsets.ISO_8859_1);
            directory.all(name).u32(sum(bytes), start + body.size(), bytes.length);
            body.all(bytes).zeros(-bytes.length & 3);
        }
        return directory.all(body.done()).done();
    }

    /** Where a table of a file that was done begins. */
    static int placeIn(byte[] file, String name) {
        int entry = new String(file, StandardCharsets.ISO_8859_1).indexOf(name);
        return words(file)[entry / 4 + 2];
    }

    static long sum(byte[] bytes) {
        int sum = 0;
        for (int word : words(bytes)) {
            sum += word;
        }
        return sum & 0xFFFFFFFFL;
    }

    /** The object's file becomes this one. */
    void into(GlyphLines lines) {
        into(lines, done());
    }

    static void into(GlyphLines lines, byte[] file) {
        lines.cut(0);
        int size = 0;
        for (int word : words(file)) {
            size += 4;
            Check.due("feed", lines.feed(word), size);
        }
        lines.cut(file.length);
    }

    /** The bytes by fours, with zeros behind them, if need be. */
    static int[] words(byte[] bytes) {
        int[] words = new int[(bytes.length + 3) / 4];
        for (int i = 0; i < bytes.length; i++) {
            words[i / 4] |= (bytes[i] & 255) << (24 - 8 * (i % 4));
        }
        return words;
    }

    /** What a new object says to this file. */
    int loaded() {
        return loaded(done(), true);
    }

    static int loaded(byte[] file, boolean checked) {
        GlyphLines lines = new GlyphLines();
        into(lines, file);
        return lines.load(checked);
    }

    /** An object with this font, which must be right. */
    GlyphLines font() {
        GlyphLines lines = new GlyphLines();
        into(lines);
        int glyphs = lines.load(true);
        if (glyphs < 1) {
            Check.due("load(true) of a font that is right", glyphs, 1);
        }
        return lines;
    }
}
