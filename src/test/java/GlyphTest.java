import java.util.Arrays;

/** Promise 7, and of the terms: GLYPH OF a character. */
public final class GlyphTest {
    private GlyphTest() {
    }

    public static void main(String[] args) {
        withoutAFont();
        characters();
        firstAndLast();
        byDelta();
        deltaWrapsAround();
        notBelowN();
        byWay();
        wayFromFirst();
        zeroByWay();
        deltaByWayWrapsAround();
        wayOutOfTheTable();
        wayAnywhereInTheTable();
        gaps();
        firstRangeCounts();
        firstPartCounts();
        anotherFont();
        Check.end();
    }

    private static GlyphLines with(byte[] cmap) {
        return FontFile.of(new byte[16][0]).table("cmap", cmap).font();
    }

    private static GlyphLines with(int[]... ranges) {
        return with(FontFile.cmap(ranges));
    }

    private static void glyphs(String what, GlyphLines lines, int from, int... due) {
        for (int i = 0; i < due.length; i++) {
            Check.due(what + ": glyph(" + (from + i) + ")", lines.glyph(from + i), due[i]);
        }
    }

    private static void withoutAFont() {
        GlyphLines none = new GlyphLines();
        Check.state("glyph(65)", () -> none.glyph(65));
        Check.state("glyph(-1): the first exception wins", () -> none.glyph(-1));
        Check.state("glyph(65536): the first exception wins", () -> none.glyph(65536));
    }

    private static void characters() {
        GlyphLines lines = with(FontFile.range(0, 65534, 5, 0), FontFile.range(65535, 65535, 8, 0));
        for (int c : new int[] {-1, 65536, Integer.MIN_VALUE, Integer.MAX_VALUE}) {
            Check.argument("glyph(" + c + ")", () -> lines.glyph(c));
        }
        Check.due("glyph(0)", lines.glyph(0), 5);
        Check.due("glyph(65535)", lines.glyph(65535), 7);
    }

    private static void firstAndLast() {
        GlyphLines lines = with(FontFile.range(10, 12, -5, 0), FontFile.range(14, 65535, -1, 0));
        glyphs("FIRST 10, LAST 12", lines, 9, 0, 5, 6, 7, 0);
        glyphs("FIRST 14", lines, 13, 0, 13, 14, 15, 0);
        GlyphLines high = with(FontFile.range(0, 32767, 0, 0), FontFile.range(32768, 32769, 32770, 0),
                FontFile.range(65534, 65535, 10, 0));
        glyphs("FIRST 32768, LAST 32769", high, 32767, 0, 2, 3, 0);
        glyphs("FIRST 65534", high, 65533, 0, 8, 9);
    }

    private static void byDelta() {
        glyphs("delta 0", with(FontFile.range(0, 65535, 0, 0)), 0, 0, 1, 2);
        GlyphLines down = with(FontFile.range(60, 65535, -65, 0));
        glyphs("delta -65", down, 58, 0, 0, 0, 0, 0, 0, 0, 0, 1, 2);
        glyphs("delta -65", down, 79, 14, 15, 0);
        GlyphLines up = with(FontFile.range(0, 65535, 3, 0));
        glyphs("delta 3", up, 0, 3, 4);
    }

    private static void deltaWrapsAround() {
        // c + 3 is 65535, 65536, 65537, 65538.
        glyphs("delta 3", with(FontFile.range(0, 65535, 3, 0)), 65532, 0, 0, 1, 2);
        GlyphLines most = with(FontFile.range(0, 65535, 65535, 0));
        glyphs("delta 65535", most, 0, 0, 0, 1, 2);
        GlyphLines half = with(FontFile.range(0, 65535, 32768, 0));
        glyphs("delta 32768", half, 32767, 0, 0, 1, 2);
    }

    private static void notBelowN() {
        glyphs("N 16", with(FontFile.range(0, 65535, 0, 0)), 14, 14, 15, 0, 0);
        GlyphLines one = FontFile.of(new byte[1][0]).font();
        glyphs("N 1", one, 0, 0, 0, 0);
        GlyphLines two = FontFile.of(new byte[2][0]).font();
        glyphs("N 2", two, 0, 0, 1, 0);
        byte[] ranges = FontFile.cmap(FontFile.range(0, 65535, 1, 2));
        glyphs("by WAY", with(new Bytes().all(ranges).u16(14, 15, 65534, 65535).done()), 0, 15, 0, 0, 0);
    }

    private static void byWay() {
        // Two ranges: WAY of the first stands 4 bytes before the end of the ranges, of the second 2.
        byte[] ranges = FontFile.cmap(FontFile.range(10, 13, 2, 4), FontFile.range(20, 65535, -1, 10));
        byte[] cmap = new Bytes().all(ranges).u16(5, 0, 13, 65535, 3, 0, 1, 18).done();
        GlyphLines lines = with(cmap);
        glyphs("way and delta 2", lines, 9, 0, 7, 0, 15, 1, 0);
        glyphs("way and delta -1", lines, 19, 0, 2, 0, 0, 0);
    }

    private static void wayFromFirst() {
        byte[] ranges = FontFile.cmap(FontFile.range(100, 102, 0, 4), FontFile.range(65534, 65535, 0, 8));
        GlyphLines lines = with(new Bytes().all(ranges).u16(1, 2, 3, 4, 5, 6).done());
        glyphs("from 100 to 102", lines, 99, 0, 1, 2, 3, 0);
        glyphs("from 65534 to 65535", lines, 65533, 0, 4, 5);
    }

    private static void zeroByWay() {
        byte[] ranges = FontFile.cmap(FontFile.range(0, 65535, 5, 2));
        glyphs("0 stays 0, 1 becomes 6", with(new Bytes().all(ranges).u16(0, 1, 0).done()), 0, 0, 6, 0, 0);
    }

    private static void deltaByWayWrapsAround() {
        byte[] ranges = FontFile.cmap(FontFile.range(0, 65535, 2, 2));
        glyphs("65533 + 2 and on", with(new Bytes().all(ranges).u16(65533, 65534, 65535, 1).done()), 0, 0, 0, 1, 3);
    }

    private static void wayOutOfTheTable() {
        byte[] ranges = FontFile.cmap(FontFile.range(10, 65535, 2, 2));
        GlyphLines whole = with(new Bytes().all(ranges).u16(5, 6).done());
        glyphs("in the table", whole, 10, 7, 8, 0, 0);
        GlyphLines cut = with(new Bytes().all(ranges).u16(5).u8(0).done());
        glyphs("half in the table", cut, 10, 7, 0, 0);
        Check.due("far out", cut.glyph(65535), 0);
        glyphs("none behind the ranges", with(ranges), 10, 0, 0);
        for (int way : new int[] {32767, 32768, 65535}) {
            GlyphLines far = with(FontFile.range(10, 65535, 2, way));
            Check.due("a way of " + way, far.glyph(10), 0);
            Check.due("a way of " + way, far.glyph(65535), 0);
        }
        // What lies behind cmap in the file is not read: glyf follows, of bytes that are no zeros.
        FontFile font = FontFile.of(FontFile.simple(FontFile.lines(1, 1)), new byte[0]);
        font.table("cmap", FontFile.cmap(FontFile.range(0, 65535, 0, 2)));
        glyphs("behind the table", font.font(), 0, 0, 0);
    }

    private static void wayAnywhereInTheTable() {
        // An odd way leads to the second byte of WAY itself, and the one behind it: 256 + 4, then 9.
        GlyphLines odd = with(new Bytes().all(FontFile.cmap(FontFile.range(0, 65535, 0, 1))).u8(4, 0, 9).done());
        glyphs("an odd way", odd, 0, 0, 9, 0);
        // The first range's way leads to WAY of the second, which is 9 itself.
        byte[] two = FontFile.cmap(FontFile.range(0, 0, 0, 2), FontFile.range(65535, 65535, 0, 9));
        glyphs("a way to a WAY", with(two), 0, 9, 0);
    }

    private static void gaps() {
        GlyphLines lines = with(FontFile.range(10, 12, -9, 0), FontFile.range(20, 20, -10, 0),
                FontFile.range(65535, 65535, 1, 0));
        glyphs("gaps", lines, 8, 0, 0, 1, 2, 3, 0, 0);
        glyphs("gaps", lines, 19, 0, 10, 0);
        Check.due("glyph(65535)", lines.glyph(65535), 0);
    }

    private static void firstRangeCounts() {
        // The first range with LAST not below c has FIRST above it: the next one is not asked.
        GlyphLines lines = with(FontFile.range(10, 12, -9, 0), FontFile.range(0, 65535, 0, 0));
        glyphs("the next is not asked", lines, 8, 0, 0, 1, 2, 3, 13, 14, 15, 0);
        GlyphLines both = with(FontFile.range(0, 5, 1, 0), FontFile.range(0, 65535, 2, 0));
        glyphs("the first is asked up to its LAST", both, 4, 5, 6, 8, 9);
    }

    private static void firstPartCounts() {
        byte[] body = FontFile.cmap(FontFile.range(0, 65535, 5, 0));
        byte[] other = FontFile.cmap(FontFile.range(0, 65535, 7, 0));
        Bytes two = new Bytes().u16(0, 3, 3, 0).u32(28 + 24).u16(3, 1).u32(28).u16(3, 1).u32(28 + 24);
        two.all(Arrays.copyOfRange(body, 12, 36)).all(Arrays.copyOfRange(other, 12, 36));
        Check.due("the first part with 3, 1", with(two.done()).glyph(1), 6);
    }

    private static void anotherFont() {
        GlyphLines lines = FontFile.of(new byte[3][0]).font();
        glyphs("N 3", lines, 1, 1, 2, 0, 0);
        FontFile.of(new byte[4][0]).into(lines);
        glyphs("N 3, before the other is loaded", lines, 1, 1, 2, 0, 0);
        lines.load(true);
        glyphs("N 4", lines, 1, 1, 2, 3, 0);
    }
}
