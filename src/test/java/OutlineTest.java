import java.util.Arrays;

/** Promises 8 and 9: measure and point. */
public final class OutlineTest {
    private static final int FOLLOWS = 1 << 5;
    private static final byte[] NO_BYTES = {};

    private OutlineTest() {
    }

    public static void main(String[] args) {
        withoutAFont();
        measuredGlyphs();
        measures();
        glyphsOfPoints();
        pointsThatAreThere();
        numbersOfAPoint();
        widths();
        counts();
        noPoints();
        mostPoints();
        flags();
        flagsOfEachAxis();
        greatestSteps();
        repeatedFlags();
        bytesPassedOver();
        shortPlaces();
        dataEndWhereTheNextBegin();
        moved();
        factors();
        roundedDown();
        nested();
        Check.end();
    }

    /** Each point is x, y, on, contour. */
    private static void points(String what, GlyphLines lines, int glyph, int... due) {
        Check.due(what + ": how many points", lines.measure(glyph, 1), due.length / 4);
        for (int i = 0; i < due.length; i++) {
            String call = what + ": point(" + glyph + ", " + i / 4 + ", " + i % 4 + ")";
            Check.due(call, lines.point(glyph, i / 4, i % 4), due[i]);
        }
    }

    private static void withoutAFont() {
        GlyphLines none = new GlyphLines();
        Check.state("measure(0, 0)", () -> none.measure(0, 0));
        Check.state("measure(-1, 0): the first exception wins", () -> none.measure(-1, 0));
        Check.state("measure(0, 3): the first exception wins", () -> none.measure(0, 3));
        Check.state("point(0, 0, 0)", () -> none.point(0, 0, 0));
        Check.state("point(-1, 0, 0): the first exception wins", () -> none.point(-1, 0, 0));
        Check.state("point(0, -1, 0): the first exception wins", () -> none.point(0, -1, 0));
        Check.state("point(0, 0, 4): the first exception wins", () -> none.point(0, 0, 4));
    }

    private static void measuredGlyphs() {
        GlyphLines one = FontFile.of(new byte[1][0]).font();
        Check.due("measure(0, 0) of 1 glyph", one.measure(0, 0), 10);
        GlyphLines most = FontFile.of(new byte[16][0]).font();
        Check.due("measure(15, 0) of 16 glyphs", most.measure(15, 0), 25);
        for (int what = 0; what < 3; what++) {
            int kind = what;
            Check.index("measure(1, " + what + ") of 1 glyph", () -> one.measure(1, kind));
            Check.index("measure(16, " + what + ") of 16 glyphs", () -> most.measure(16, kind));
            for (int g : new int[] {-1, Integer.MIN_VALUE, Integer.MAX_VALUE}) {
                Check.index("measure(" + g + ", " + what + ")", () -> most.measure(g, kind));
            }
        }
    }

    private static void measures() {
        GlyphLines lines = FontFile.of(FontFile.simple(FontFile.lines(1, 2), FontFile.lines(3, 4, 5, 6)),
                NO_BYTES).font();
        int[] due = {10, 3, 2};
        for (int what = 0; what < 3; what++) {
            Check.due("measure(0, " + what + ")", lines.measure(0, what), due[what]);
        }
        for (int what : new int[] {-1, 3, 4, Integer.MIN_VALUE, Integer.MAX_VALUE}) {
            Check.index("measure(0, " + what + ")", () -> lines.measure(0, what));
            Check.index("measure(1, " + what + ")", () -> lines.measure(1, what));
            Check.index("measure(2, " + what + ")", () -> lines.measure(2, what));
        }
    }

    private static GlyphLines twoPoints() {
        return FontFile.of(FontFile.simple(FontFile.lines(1, 2, 3, 4)), NO_BYTES).font();
    }

    private static void glyphsOfPoints() {
        GlyphLines lines = twoPoints();
        for (int g : new int[] {-1, 2, 3, Integer.MIN_VALUE, Integer.MAX_VALUE}) {
            Check.index("point(" + g + ", 0, 0)", () -> lines.point(g, 0, 0));
        }
        points("as before", lines, 0, 1, 2, 1, 0, 3, 4, 1, 0);
        byte[][] most = new byte[16][0];
        most[15] = FontFile.simple(FontFile.lines(7, 8));
        points("glyph 15 of 16", FontFile.of(most).font(), 15, 7, 8, 1, 0);
    }

    private static void pointsThatAreThere() {
        GlyphLines lines = twoPoints();
        for (int what = 0; what < 4; what++) {
            int kind = what;
            for (int i : new int[] {-1, 2, 3, 63, 64, Integer.MIN_VALUE, Integer.MAX_VALUE}) {
                Check.index("point(0, " + i + ", " + what + ")", () -> lines.point(0, i, kind));
            }
            Check.index("no points: point(1, 0, " + what + ")", () -> lines.point(1, 0, kind));
            Check.index("no points: point(1, -1, " + what + ")", () -> lines.point(1, -1, kind));
        }
        // Another glyph's points, asked for just before, are not this one's.
        Check.due("point(0, 1, 0)", lines.point(0, 1, 0), 3);
        Check.index("point(1, 1, 0)", () -> lines.point(1, 1, 0));
    }

    private static void numbersOfAPoint() {
        GlyphLines lines = twoPoints();
        for (int what : new int[] {-1, 4, 5, Integer.MIN_VALUE, Integer.MAX_VALUE}) {
            Check.index("point(0, 0, " + what + ")", () -> lines.point(0, 0, what));
            Check.index("point(0, 1, " + what + ")", () -> lines.point(0, 1, what));
            Check.index("point(0, 2, " + what + ")", () -> lines.point(0, 2, what));
        }
        points("as before", lines, 0, 1, 2, 1, 0, 3, 4, 1, 0);
    }

    private static void widths() {
        FontFile font = FontFile.of(new byte[4][0]);
        font.table("hmtx", new Bytes().u16(7, 1, 65535, 2, 9, 3, 4, 5).done());
        int[][] due = {{7, 7, 7, 7}, {7, 65535, 65535, 65535}, {7, 65535, 9, 9}, {7, 65535, 9, 4}};
        for (int wide = 1; wide <= 4; wide++) {
            GlyphLines lines = font.put16("hhea", 34, wide).font();
            for (int g = 0; g < 4; g++) {
                Check.due("width of " + g + ", H " + wide, lines.measure(g, 0), due[wide - 1][g]);
            }
        }
    }

    private static void counts() {
        GlyphLines lines = FontFile.of(NO_BYTES, new Bytes().u16(0).zeros(10).done(),
                FontFile.simple(FontFile.lines(1, 2), FontFile.lines(3, 4, 5, 6), FontFile.lines(7, 8)),
                FontFile.composed(FontFile.part(FOLLOWS, 2, 0, 0), FontFile.part(FOLLOWS, 1, 0, 0),
                        FontFile.part(0, 2, 0, 0))).font();
        int[] pointsDue = {0, 0, 4, 8};
        int[] contoursDue = {0, 0, 3, 6};
        for (int g = 0; g < 4; g++) {
            Check.due("points of " + g, lines.measure(g, 1), pointsDue[g]);
            Check.due("contours of " + g, lines.measure(g, 2), contoursDue[g]);
        }
        points("contours are counted on", lines, 3, 1, 2, 1, 0, 3, 4, 1, 1, 5, 6, 1, 1, 7, 8, 1, 2,
                1, 2, 1, 3, 3, 4, 1, 4, 5, 6, 1, 4, 7, 8, 1, 5);
    }

    private static void noPoints() {
        GlyphLines lines = FontFile.of(NO_BYTES, new Bytes().u16(0).zeros(10).done(),
                FontFile.composed(FontFile.part(0, 0, 5, 5))).font();
        for (int g = 0; g < 3; g++) {
            int glyph = g;
            Check.due("points of " + g, lines.measure(g, 1), 0);
            Check.due("contours of " + g, lines.measure(g, 2), 0);
            Check.index("point(" + g + ", 0, 0)", () -> lines.point(glyph, 0, 0));
        }
    }

    private static void mostPoints() {
        int[] contour = new int[72];
        for (int i = 0; i < 24; i++) {
            contour[3 * i] = 10 * i;
            contour[3 * i + 1] = -i;
            contour[3 * i + 2] = i % 2;
        }
        GlyphLines lines = FontFile.of(FontFile.simple(contour)).font();
        Check.due("24 points", lines.measure(0, 1), 24);
        Check.due("the last x", lines.point(0, 23, 0), 230);
        Check.due("the last y", lines.point(0, 23, 1), -23);
        Check.due("the last is ON", lines.point(0, 23, 2), 1);
        Check.due("the last but one is not", lines.point(0, 22, 2), 0);
        Check.index("point(0, 24, 0)", () -> lines.point(0, 24, 0));
        GlyphLines four = FontFile.of(FontFile.simple(FontFile.lines(1, 1), FontFile.lines(2, 2),
                FontFile.lines(3, 3, 4, 4), FontFile.lines(5, 5))).font();
        Check.due("4 contours", four.measure(0, 2), 4);
        points("4 contours", four, 0, 1, 1, 1, 0, 2, 2, 1, 1, 3, 3, 1, 2, 4, 4, 1, 2, 5, 5, 1, 3);
    }

    private static void flags() {
        // x and y by an U8 up, an U8 down, not at all, an S16; ON and not.
        byte[] glyph = new Bytes().u16(2).zeros(8).u16(2, 4).u16(2).u8(99, 98)
                .u8(0x37, 0x06, 0x31, 0x00, 0x01)
                .u8(255, 5).u16(-300, 1000)
                .u8(1, 200).u16(-3000, 3001).done();
        GlyphLines lines = FontFile.of(glyph).font();
        points("flags", lines, 0, 255, 1, 1, 0, 250, -199, 0, 0, 250, -199, 1, 0,
                -50, -3199, 0, 1, 950, -198, 1, 1);
    }

    private static void flagsOfEachAxis() {
        // x by an U8 up, y by an S16; x not at all, y by an U8 down; x by an S16, y not at all; and back.
        byte[] glyph = new Bytes().u16(1).zeros(8).u16(3).u16(0)
                .u8(0x12, 0x14, 0x20, 0x24)
                .u8(7).u16(-500, 600)
                .u16(1000).u8(200, 255).done();
        GlyphLines lines = FontFile.of(glyph).font();
        points("flags of each axis", lines, 0, 7, 1000, 0, 0, 7, 800, 0, 0, -493, 800, 0, 0, 107, 1055, 0, 0);
    }

    private static void greatestSteps() {
        // By U8s: 0 and 255, up and down; by S16s: from end to end, -1, -256, 255, 256.
        byte[] bytes = new Bytes().u16(1).zeros(8).u16(4).u16(0)
                .u8(0x36, 0x36, 0x06, 0x06, 0x36)
                .u8(255, 0, 255, 255, 1)
                .u8(0, 255, 0, 255, 128).done();
        byte[] words = new Bytes().u16(1).zeros(8).u16(5).u16(0).u8(0, 0, 0, 0, 0, 0)
                .u16(4095, -8191, 8191, -1, -256, 255)
                .u16(-4096, 8191, -8191, 256, 127, 128).done();
        GlyphLines lines = FontFile.of(bytes, words).font();
        points("by U8s", lines, 0, 255, 0, 0, 0, 255, 255, 0, 0, 0, 255, 0, 0, -255, 0, 0, 0, -254, 128, 0, 0);
        points("by S16s", lines, 1, 4095, -4096, 0, 0, -4096, 4095, 0, 0, 4095, -4096, 0, 0,
                4094, -3840, 0, 0, 3838, -3713, 0, 0, 4093, -3585, 0, 0);
    }

    private static void repeatedFlags() {
        // U8s up for both. Of 3 points: for one more and one alone; for two more; for more than there are.
        byte[] one = new Bytes().u16(1).zeros(8).u16(2).u16(0).u8(0x3F, 1, 0x06).u8(1, 2, 1, 4, 5, 6).done();
        byte[] two = new Bytes().u16(1).zeros(8).u16(2).u16(0).u8(0x3F, 2).u8(1, 2, 1, 4, 5, 6).done();
        byte[] more = new Bytes().u16(1).zeros(8).u16(2).u16(0).u8(0x3F, 3).u8(1, 2, 1, 4, 5, 6).done();
        byte[] none = new Bytes().u16(1).zeros(8).u16(0).u16(0).u8(0x3F, 0).u8(7, 8).done();
        GlyphLines ends = FontFile.of(one, two, more, none).font();
        points("for one more", ends, 0, 1, 4, 1, 0, 3, 9, 1, 0, 2, 3, 0, 0);
        points("for two more", ends, 1, 1, 4, 1, 0, 3, 9, 1, 0, 4, 15, 1, 0);
        points("for more than there are", ends, 2, 1, 4, 1, 0, 3, 9, 1, 0, 4, 15, 1, 0);
        points("for no more", ends, 3, 7, 8, 1, 0);
        byte[] glyph = new Bytes().u16(1).zeros(8).u16(5).u16(0)
                .u8(0x3F, 2, 0x36, 0x37 | 8, 200)
                .u8(1, 2, 3, 4, 5, 6)
                .u8(10, 20, 30, 40, 50, 60).done();
        GlyphLines lines = FontFile.of(glyph).font();
        points("flags that hold for more", lines, 0, 1, 10, 1, 0, 3, 30, 1, 0, 6, 60, 1, 0,
                10, 100, 0, 0, 15, 150, 1, 0, 21, 210, 1, 0);
    }

    private static void bytesPassedOver() {
        for (int many : new int[] {0, 1, 2, 255, 256, 300}) {
            Bytes bytes = new Bytes().u16(1).zeros(8).u16(0).u16(many);
            for (int i = 0; i < many; i++) {
                bytes.u8(0x99);
            }
            GlyphLines lines = FontFile.of(bytes.u8(0x37, 3, 4).done()).font();
            points(many + " bytes", lines, 0, 3, 4, 1, 0);
        }
    }

    private static void dataEndWhereTheNextBegin() {
        byte[] one = FontFile.simple(FontFile.lines(1, 2));
        byte[] two = FontFile.simple(FontFile.lines(3, 4));
        FontFile font = FontFile.of(one, two, NO_BYTES);
        int size = one.length;
        GlyphLines as = font.font();
        points("the first", as, 0, 1, 2, 1, 0);
        points("the second", as, 1, 3, 4, 1, 0);
        Check.due("the third has none", as.measure(2, 1), 0);
        // Glyph 0 without bytes, 1 with the second ones, 2 without; the first ones are no glyph's.
        GlyphLines other = font.table("loca", new Bytes().u32(size, size, 2 * size, 2 * size).done()).font();
        Check.due("the first has none", other.measure(0, 1), 0);
        points("the second", other, 1, 3, 4, 1, 0);
        // Bytes in front of glyph 0 and behind the last one.
        GlyphLines inside = font.table("loca", new Bytes().u32(size, 2 * size, 2 * size, 2 * size).done())
                .longer("glyf", new byte[9]).font();
        points("from the middle on", inside, 0, 3, 4, 1, 0);
        Check.due("the second has none", inside.measure(1, 1), 0);
    }

    private static void shortPlaces() {
        byte[] one = FontFile.simple(FontFile.lines(1, 2));
        byte[] two = FontFile.simple(FontFile.lines(3, 4));
        int size = one.length + 1;
        FontFile font = FontFile.of(one, new byte[1], two).table("head", FontFile.head(64, 0));
        font.longer("glyf", new byte[1]);
        font.table("loca", new Bytes().u16(0, size / 2, size / 2, size).done());
        GlyphLines lines = font.font();
        points("the first", lines, 0, 1, 2, 1, 0);
        Check.due("none between", lines.measure(1, 1), 0);
        points("the third", lines, 2, 3, 4, 1, 0);
    }

    private static void moved() {
        byte[] dot = FontFile.simple(new int[] {10, 20, 1, 30, 40, 0});
        byte[] byBytes = FontFile.composed(new Bytes().u16(2 | FOLLOWS, 0).u8(127, -128)
                .u16(2, 0).u8(-128, 127).done());
        byte[] byWords = FontFile.composed(FontFile.part(FOLLOWS, 0, 300, -301), FontFile.part(0, 0, -1, 1));
        GlyphLines lines = FontFile.of(dot, byBytes, byWords).font();
        points("S8s", lines, 1, 137, -108, 1, 0, 157, -88, 0, 0,
                -118, 147, 1, 1, -98, 167, 0, 1);
        points("S16s", lines, 2, 310, -281, 1, 0, 330, -261, 0, 0, 9, 21, 1, 1, 29, 41, 0, 1);
    }

    private static void factors() {
        byte[] dot = FontFile.simple(FontFile.lines(100, 40));
        byte[] last = FontFile.part(0, 0, 5, 6);
        byte[] one = FontFile.composed(FontFile.part(FOLLOWS | 8, 0, 1, 2, 8192), last);
        byte[] two = FontFile.composed(FontFile.part(FOLLOWS | 64, 0, 1, 2, -16384, 4096),
                FontFile.part(FOLLOWS | 64, 0, 1, 2, 4096, -16384), last);
        byte[] four = FontFile.composed(FontFile.part(FOLLOWS | 128, 0, 1, 2, 16384, 8192, -4096, 24576),
                FontFile.part(FOLLOWS | 128, 0, 1, 2, -16384, -8192, 4096, -24576), last);
        byte[] most = FontFile.composed(FontFile.part(FOLLOWS | 8, 0, 0, 0, -32768),
                FontFile.part(8, 0, 0, 0, 32767));
        GlyphLines lines = FontFile.of(dot, one, two, four, most).font();
        points("one factor", lines, 1, 51, 22, 1, 0, 105, 46, 1, 1);
        points("two factors", lines, 2, -99, 12, 1, 0, 26, -38, 1, 1, 105, 46, 1, 2);
        // x: 100 - 10 + 1, -100 + 10 + 1; y: 50 + 60 + 2, -50 - 60 + 2.
        points("four factors", lines, 3, 91, 112, 1, 0, -89, -108, 1, 1, 105, 46, 1, 2);
        points("the greatest", lines, 4, -200, -80, 1, 0, 199, 79, 1, 1);
    }

    private static void roundedDown() {
        byte[] dots = FontFile.simple(FontFile.lines(1, -1, -3, 3));
        byte[] half = FontFile.composed(FontFile.part(8, 0, 0, 0, 8192));
        byte[] sum = FontFile.composed(FontFile.part(128, 0, 10, -10, 8192, 8192, -8192, 4096));
        byte[] least = FontFile.composed(FontFile.part(8, 0, 0, 0, 1));
        GlyphLines lines = FontFile.of(dots, half, sum, least).font();
        points("halves", lines, 1, 0, -1, 1, 0, -2, 1, 1, 0);
        // x: 0.5 + 0.5 = 1, y: 0.5 - 0.25; x: -1.5 - 1.5 = -3, y: -1.5 + 0.75.
        points("the sum is rounded, not what is summed", lines, 2, 11, -10, 1, 0, 7, -11, 1, 0);
        points("a 16384th", lines, 3, 0, -1, 1, 0, -1, 0, 1, 0);
    }

    private static void nested() {
        byte[] dot = FontFile.simple(new int[] {3, 5, 0});
        byte[] half = FontFile.composed(FontFile.part(FOLLOWS | 8, 0, 1, 1, 8192), FontFile.part(0, 0, 7, 7));
        byte[] whole = FontFile.composed(FontFile.part(FOLLOWS, 0, 100, 100),
                FontFile.part(FOLLOWS | 8, 1, 20, 10, 8192), FontFile.part(0, 0, -1, -1));
        GlyphLines lines = FontFile.of(dot, half, whole).font();
        points("two deep", lines, 1, 2, 3, 0, 0, 10, 12, 0, 1);
        points("three deep", lines, 2, 103, 105, 0, 0, 21, 11, 0, 1, 25, 16, 0, 2, 2, 4, 0, 3);
        int[] contour = new int[48];
        Arrays.fill(contour, 1);
        byte[] sixteen = FontFile.simple(contour);
        byte[] twice = FontFile.composed(FontFile.part(FOLLOWS, 0, 0, 0), FontFile.part(0, 0, 1, 1));
        byte[] often = FontFile.composed(FontFile.part(FOLLOWS, 1, 0, 0), FontFile.part(0, 1, 2, 2));
        GlyphLines most = FontFile.of(sixteen, twice, often).font();
        Check.due("64 points", most.measure(2, 1), 64);
        Check.due("4 contours", most.measure(2, 2), 4);
        Check.due("the last x", most.point(2, 63, 0), 4);
        Check.due("the last contour", most.point(2, 63, 3), 3);
        Check.index("point(2, 64, 0)", () -> most.point(2, 64, 0));
    }
}
