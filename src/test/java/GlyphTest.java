import java.util.Arrays;

/** Promise 7: glyph. */
public final class GlyphTest {
    private GlyphTest() {
    }

    public static void main(String[] args) {
        wrongCalls();
        byDelta();
        byWay();
        wayOutOfTheTable();
        gaps();
        firstPartCounts();
        Check.end();
    }

    private static GlyphLines with(byte[] cmap) {
        return FontFile.of(new byte[16][0]).table("cmap", cmap).font();
    }

    private static void glyphs(String what, GlyphLines lines, int from, int... due) {
        for (int i = 0; i < due.length; i++) {
            Check.due(what + ": glyph(" + (from + i) + ")", lines.glyph(from + i), due[i]);
        }
    }

    private static void wrongCalls() {
        GlyphLines none = new GlyphLines();
        Check.state("glyph(-1) without a font", () -> none.glyph(-1));
        Check.state("glyph(65) without a font", () -> none.glyph(65));
        GlyphLines lines = with(FontFile.cmap(FontFile.range(0, 65535, 0, 0)));
        Check.argument("glyph(-1)", () -> lines.glyph(-1));
        Check.argument("glyph(65536)", () -> lines.glyph(65536));
        Check.argument("glyph(the least)", () -> lines.glyph(Integer.MIN_VALUE));
        Check.due("glyph(0)", lines.glyph(0), 0);
        Check.due("glyph(65535)", lines.glyph(65535), 0);
    }

    private static void byDelta() {
        GlyphLines lines = with(FontFile.cmap(FontFile.range(0, 65535, 0, 0)));
        glyphs("delta 0", lines, 12, 12, 13, 14, 15, 0, 0);
        GlyphLines down = with(FontFile.cmap(FontFile.range(60, 65535, -65, 0)));
        glyphs("delta -65", down, 58, 0, 0, 0, 0, 0, 0, 0, 0, 1, 2);
        glyphs("delta -65", down, 79, 14, 15, 0);
        GlyphLines up = with(FontFile.cmap(FontFile.range(0, 65535, 3, 0)));
        glyphs("delta 3", up, 0, 3, 4);
        glyphs("modulo 65536", up, 65532, 0, 0, 1, 2);
    }

    private static void byWay() {
        // Two ranges: WAY of the first stands 4 bytes before the end of the ranges, of the second 2.
        byte[] ranges = FontFile.cmap(FontFile.range(10, 13, 2, 4), FontFile.range(20, 65535, -1, 10));
        byte[] cmap = new Bytes().all(ranges).u16(5, 0, 13, 65535, 3, 0, 1, 18).done();
        GlyphLines lines = with(cmap);
        glyphs("way and delta 2", lines, 9, 0, 7, 0, 15, 1, 0);
        glyphs("way and delta -1", lines, 19, 0, 2, 0, 0, 0);
    }

    private static void wayOutOfTheTable() {
        byte[] ranges = FontFile.cmap(FontFile.range(10, 65535, 2, 2));
        GlyphLines whole = with(new Bytes().all(ranges).u16(5, 6).done());
        glyphs("in the table", whole, 10, 7, 8, 0, 0);
        GlyphLines cut = with(new Bytes().all(ranges).u16(5).u8(0).done());
        glyphs("half in the table", cut, 10, 7, 0, 0);
        Check.due("far out", cut.glyph(65535), 0);
        GlyphLines far = with(FontFile.cmap(FontFile.range(10, 65535, 2, 65535)));
        Check.due("a great way", far.glyph(10), 0);
        Check.due("a great way", far.glyph(65535), 0);
        // An odd way leads to the second byte of WAY itself, and the one behind it: 256 + 4, then 9.
        GlyphLines odd = with(new Bytes().all(FontFile.cmap(FontFile.range(0, 65535, 0, 1))).u8(4, 0, 9).done());
        glyphs("an odd way", odd, 0, 0, 9, 0);
    }

    private static void gaps() {
        GlyphLines lines = with(FontFile.cmap(FontFile.range(10, 12, -9, 0), FontFile.range(20, 20, -10, 0),
                FontFile.range(65535, 65535, 1, 0)));
        glyphs("gaps", lines, 8, 0, 0, 1, 2, 3, 0, 0);
        glyphs("gaps", lines, 19, 0, 10, 0);
        Check.due("glyph(65535)", lines.glyph(65535), 0);
    }

    private static void firstPartCounts() {
        // The first range with LAST not below c has FIRST above it: the next one is not asked.
        GlyphLines lines = with(FontFile.cmap(FontFile.range(10, 12, -9, 0), FontFile.range(0, 65535, 0, 0)));
        glyphs("the next is not asked", lines, 8, 0, 0, 1, 2, 3, 13, 14, 15, 0);
        byte[] body = FontFile.cmap(FontFile.range(0, 65535, 5, 0));
        byte[] other = FontFile.cmap(FontFile.range(0, 65535, 7, 0));
        Bytes two = new Bytes().u16(0, 3, 3, 0).u32(28 + 24).u16(3, 1).u32(28).u16(3, 1).u32(28 + 24);
        two.all(Arrays.copyOfRange(body, 12, 36)).all(Arrays.copyOfRange(other, 12, 36));
        Check.due("the first part with 3, 1", with(two.done()).glyph(1), 6);
    }
}
