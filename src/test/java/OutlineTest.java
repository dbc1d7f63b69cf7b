import java.util.Arrays;

/** Promises 8 and 9: measure and point. */
public final class OutlineTest {
    private static final int FOLLOWS = 1 << 5;
    private static final byte[] NO_BYTES = {};

    private OutlineTest() {
    }

    public static void main(String[] args) {
        wrongMeasures();
        wrongPoints();
        widths();
        counts();
        flags();
        flagsOfEachAxis();
        repeatedFlags();
        shortPlaces();
        moved();
        factors();
        roundedDown();
        nested();
        Check.end();
    }

    /** Each point is x, y, on, contour. */
    private static void points(String what, GlyphLines lines, int glyph, int... due) {
        Check.due(what + ": how many points", lines.measure(glyph, 1), due.length / 4);
        for (int i = 0; i < due.length; i++) {
            String call = what + ": point(" + glyph + ", " + i / 4 + ", " + i % 4 + ")";
            Check.due(call, lines.point(glyph, i / 4, i % 4), due[i]);
        }
    }

    private static void wrongMeasures() {
        GlyphLines none = new GlyphLines();
        Check.state("measure without a font", () -> none.measure(0, 0));
        Check.state("measure without a font, and wrong", () -> none.measure(-1, 9));
        GlyphLines lines = FontFile.of(FontFile.simple(FontFile.lines(1, 2)), NO_BYTES).font();
        Check.index("measure(-1, 0)", () -> lines.measure(-1, 0));
        Check.index("measure(2, 0)", () -> lines.measure(2, 0));
        Check.index("measure(0, -1)", () -> lines.measure(0, -1));
        Check.index("measure(0, 3)", () -> lines.measure(0, 3));
        Check.due("measure(1, 0)", lines.measure(1, 0), 11);
    }

    private static void wrongPoints() {
        GlyphLines none = new GlyphLines();
        Check.state("point without a font", () -> none.point(0, 0, 0));
        Check.state("point without a font, and wrong", () -> none.point(-1, -1, -1));
        GlyphLines lines = FontFile.of(FontFile.simple(FontFile.lines(1, 2, 3, 4)), NO_BYTES).font();
        Check.index("point(-1, 0, 0)", () -> lines.point(-1, 0, 0));
        Check.index("point(2, 0, 0)", () -> lines.point(2, 0, 0));
        Check.index("point(0, -1, 0)", () -> lines.point(0, -1, 0));
        Check.index("point(0, 2, 0)", () -> lines.point(0, 2, 0));
        Check.index("point(1, 0, 0)", () -> lines.point(1, 0, 0));
        Check.index("point(0, 0, -1)", () -> lines.point(0, 0, -1));
        Check.index("point(0, 0, 4)", () -> lines.point(0, 0, 4));
        points("as before", lines, 0, 1, 2, 1, 0, 3, 4, 1, 0);
    }

    private static void widths() {
        FontFile font = FontFile.of(new byte[4][0]);
        font.table("hmtx", new Bytes().u16(7, 1, 65535, 2, 9, 3, 4, 5).done());
        int[][] due = {{7, 7, 7, 7}, {7, 65535, 65535, 65535}, {7, 65535, 9, 9}, {7, 65535, 9, 4}};
        for (int wide = 1; wide <= 4; wide++) {
            GlyphLines lines = font.put16("hhea", 34, wide).font();
            for (int g = 0; g < 4; g++) {
                Check.due("width of " + g + ", H " + wide, lines.measure(g, 0), due[wide - 1][g]);
            }
        }
    }

    private static void counts() {
        GlyphLines lines = FontFile.of(NO_BYTES, new Bytes().u16(0).zeros(10).done(),
                FontFile.simple(FontFile.lines(1, 2), FontFile.lines(3, 4, 5, 6), FontFile.lines(7, 8)),
                FontFile.composed(FontFile.part(FOLLOWS, 2, 0, 0), FontFile.part(FOLLOWS, 1, 0, 0),
                        FontFile.part(0, 2, 0, 0))).font();
        int[] pointsDue = {0, 0, 4, 8};
        int[] contoursDue = {0, 0, 3, 6};
        for (int g = 0; g < 4; g++) {
            Check.due("points of " + g, lines.measure(g, 1), pointsDue[g]);
            Check.due("contours of " + g, lines.measure(g, 2), contoursDue[g]);
        }
        points("contours are counted on", lines, 3, 1, 2, 1, 0, 3, 4, 1, 1, 5, 6, 1, 1, 7, 8, 1, 2,
                1, 2, 1, 3, 3, 4, 1, 4, 5, 6, 1, 4, 7, 8, 1, 5);
    }

    private static void flags() {
        // x and y by an U8 up, an U8 down, not at all, an S16; ON and not.
        byte[] glyph = new Bytes().u16(2).zeros(8).u16(2, 4).u16(2).u8(99, 98)
                .u8(0x37, 0x06, 0x31, 0x00, 0x01)
                .u8(255, 5).u16(-300, 1000)
                .u8(1, 200).u16(-3000, 3001).done();
        GlyphLines lines = FontFile.of(glyph).font();
        points("flags", lines, 0, 255, 1, 1, 0, 250, -199, 0, 0, 250, -199, 1, 0,
                -50, -3199, 0, 1, 950, -198, 1, 1);
    }

    private static void flagsOfEachAxis() {
        // x by an U8 up, y by an S16; x not at all, y by an U8 down; x by an S16, y not at all; and back.
        byte[] glyph = new Bytes().u16(1).zeros(8).u16(3).u16(0)
                .u8(0x12, 0x14, 0x20, 0x24)
                .u8(7).u16(-500, 600)
                .u16(1000).u8(200, 255).done();
        GlyphLines lines = FontFile.of(glyph).font();
        points("flags of each axis", lines, 0, 7, 1000, 0, 0, 7, 800, 0, 0, -493, 800, 0, 0, 107, 1055, 0, 0);
    }

    private static void repeatedFlags() {
        byte[] glyph = new Bytes().u16(1).zeros(8).u16(5).u16(0)
                .u8(0x3F, 2, 0x36, 0x37 | 8, 200)
                .u8(1, 2, 3, 4, 5, 6)
                .u8(10, 20, 30, 40, 50, 60).done();
        GlyphLines lines = FontFile.of(glyph).font();
        points("flags that hold for more", lines, 0, 1, 10, 1, 0, 3, 30, 1, 0, 6, 60, 1, 0,
                10, 100, 0, 0, 15, 150, 1, 0, 21, 210, 1, 0);
    }

    private static void shortPlaces() {
        byte[] one = FontFile.simple(FontFile.lines(1, 2));
        byte[] two = FontFile.simple(FontFile.lines(3, 4));
        int size = one.length + 1;
        FontFile font = FontFile.of(one, new byte[1], two).table("head", FontFile.head(64, 0));
        font.longer("glyf", new byte[1]);
        font.table("loca", new Bytes().u16(0, size / 2, size / 2, size).done());
        GlyphLines lines = font.font();
        points("the first", lines, 0, 1, 2, 1, 0);
        Check.due("none between", lines.measure(1, 1), 0);
        points("the third", lines, 2, 3, 4, 1, 0);
    }

    private static void moved() {
        byte[] dot = FontFile.simple(new int[] {10, 20, 1, 30, 40, 0});
        byte[] byBytes = FontFile.composed(new Bytes().u16(2 | FOLLOWS, 0).u8(127, -128)
                .u16(2, 0).u8(-128, 127).done());
        byte[] byWords = FontFile.composed(FontFile.part(FOLLOWS, 0, 300, -301), FontFile.part(0, 0, -1, 1));
        GlyphLines lines = FontFile.of(dot, byBytes, byWords).font();
        points("S8s", lines, 1, 137, -108, 1, 0, 157, -88, 0, 0,
                -118, 147, 1, 1, -98, 167, 0, 1);
        points("S16s", lines, 2, 310, -281, 1, 0, 330, -261, 0, 0, 9, 21, 1, 1, 29, 41, 0, 1);
    }

    private static void factors() {
        byte[] dot = FontFile.simple(FontFile.lines(100, 40));
        byte[] last = FontFile.part(0, 0, 5, 6);
        byte[] one = FontFile.composed(FontFile.part(FOLLOWS | 8, 0, 1, 2, 8192), last);
        byte[] two = FontFile.composed(FontFile.part(FOLLOWS | 64, 0, 1, 2, -16384, 4096),
                FontFile.part(FOLLOWS | 64, 0, 1, 2, 4096, -16384), last);
        byte[] four = FontFile.composed(FontFile.part(FOLLOWS | 128, 0, 1, 2, 16384, 8192, -4096, 24576),
                FontFile.part(FOLLOWS | 128, 0, 1, 2, -16384, -8192, 4096, -24576), last);
        byte[] most = FontFile.composed(FontFile.part(FOLLOWS | 8, 0, 0, 0, -32768),
                FontFile.part(8, 0, 0, 0, 32767));
        GlyphLines lines = FontFile.of(dot, one, two, four, most).font();
        points("one factor", lines, 1, 51, 22, 1, 0, 105, 46, 1, 1);
        points("two factors", lines, 2, -99, 12, 1, 0, 26, -38, 1, 1, 105, 46, 1, 2);
        // x: 100 - 10 + 1, -100 + 10 + 1; y: 50 + 60 + 2, -50 - 60 + 2.
        points("four factors", lines, 3, 91, 112, 1, 0, -89, -108, 1, 1, 105, 46, 1, 2);
        points("the greatest", lines, 4, -200, -80, 1, 0, 199, 79, 1, 1);
    }

    private static void roundedDown() {
        byte[] dots = FontFile.simple(FontFile.lines(1, -1, -3, 3));
        byte[] half = FontFile.composed(FontFile.part(8, 0, 0, 0, 8192));
        byte[] sum = FontFile.composed(FontFile.part(128, 0, 10, -10, 8192, 8192, -8192, 4096));
        byte[] least = FontFile.composed(FontFile.part(8, 0, 0, 0, 1));
        GlyphLines lines = FontFile.of(dots, half, sum, least).font();
        points("halves", lines, 1, 0, -1, 1, 0, -2, 1, 1, 0);
        // x: 0.5 + 0.5 = 1, y: 0.5 - 0.25; x: -1.5 - 1.5 = -3, y: -1.5 + 0.75.
        points("the sum is rounded, not what is summed", lines, 2, 11, -10, 1, 0, 7, -11, 1, 0);
        points("a 16384th", lines, 3, 0, -1, 1, 0, -1, 0, 1, 0);
    }

    private static void nested() {
        byte[] dot = FontFile.simple(new int[] {3, 5, 0});
        byte[] half = FontFile.composed(FontFile.part(FOLLOWS | 8, 0, 1, 1, 8192), FontFile.part(0, 0, 7, 7));
        byte[] whole = FontFile.composed(FontFile.part(FOLLOWS, 0, 100, 100),
                FontFile.part(FOLLOWS | 8, 1, 20, 10, 8192), FontFile.part(0, 0, -1, -1));
        GlyphLines lines = FontFile.of(dot, half, whole).font();
        points("two deep", lines, 1, 2, 3, 0, 0, 10, 12, 0, 1);
        points("three deep", lines, 2, 103, 105, 0, 0, 21, 11, 0, 1, 25, 16, 0, 2, 2, 4, 0, 3);
        int[] contour = new int[48];
        Arrays.fill(contour, 1);
        byte[] sixteen = FontFile.simple(contour);
        byte[] twice = FontFile.composed(FontFile.part(FOLLOWS, 0, 0, 0), FontFile.part(0, 0, 1, 1));
        byte[] often = FontFile.composed(FontFile.part(FOLLOWS, 1, 0, 0), FontFile.part(0, 1, 2, 2));
        GlyphLines most = FontFile.of(sixteen, twice, often).font();
        Check.due("64 points", most.measure(2, 1), 64);
        Check.due("4 contours", most.measure(2, 2), 4);
        Check.due("the last x", most.point(2, 63, 0), 4);
        Check.due("the last contour", most.point(2, 63, 3), 3);
        Check.index("point(2, 64, 0)", () -> most.point(2, 64, 0));
    }
}
