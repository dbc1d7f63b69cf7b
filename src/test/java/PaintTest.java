import java.util.Arrays;

/** Promises 13 and 14: paint and row. */
public final class PaintTest {
    private static final byte[] NO_BYTES = {};

    private PaintTest() {
    }

    public static void main(String[] args) {
        wrongCalls();
        pen();
        rounding();
        edgesOfPixels();
        rowsAndColumns();
        besideThePicture();
        slantedLines();
        windings();
        glyphsDoNotCancel();
        emptyPictureFirst();
        fewPoints();
        curveByHand();
        flatCurves();
        greatCurves();
        manyPointsPutIn();
        halfWayIsRoundedDown();
        curveBackToItsBeginning();
        pointsPutIn();
        Check.end();
    }

    /** EM 64: with ppem 4 a unit is 4 64ths of a pixel, with 16 a quarter of a pixel. */
    private static GlyphLines font(byte[]... glyphs) {
        return FontFile.of(glyphs).font();
    }

    private static GlyphLines contours(int[]... contours) {
        return font(FontFile.simple(contours));
    }

    private static int paint(GlyphLines lines, int ppem, int... text) {
        lines.wipe();
        for (int c : text) {
            lines.type(c);
        }
        return lines.paint(ppem);
    }

    /** Each row is its number, its pixels; all others are empty. */
    private static void picture(String what, GlyphLines lines, long... rows) {
        for (int r = 0; r < 24; r++) {
            long due = 0;
            for (int i = 0; i < rows.length; i += 2) {
                due = rows[i] == r ? rows[i + 1] : due;
            }
            Check.due(what + ": row(" + r + ")", lines.row(r), due);
        }
    }

    private static void wrongCalls() {
        GlyphLines none = new GlyphLines();
        Check.state("paint(4) without a font", () -> none.paint(4));
        Check.state("paint(3) without a font", () -> none.paint(3));
        Check.index("row(-1)", () -> none.row(-1));
        Check.index("row(24)", () -> none.row(24));
        Check.due("row(0) without a font", none.row(0), 0);
        Check.due("row(23) without a font", none.row(23), 0);
        GlyphLines lines = contours(FontFile.box(0, 0, 4, 4));
        Check.due("paint(16)", paint(lines, 16, 0), 160);
        Check.argument("paint(3)", () -> lines.paint(3));
        Check.argument("paint(25)", () -> lines.paint(25));
        Check.argument("paint(-16)", () -> lines.paint(-16));
        picture("the picture of before", lines, 15, 1);
        Check.due("paint(4)", lines.paint(4), 40);
        Check.due("paint(24)", lines.paint(24), 240);
    }

    private static void pen() {
        FontFile file = FontFile.of(NO_BYTES, NO_BYTES, FontFile.simple(FontFile.box(0, 0, 4, 4)));
        file.table("kern", FontFile.kern(new int[] {1, 2, -4}, new int[] {2, 2, 8}, new int[] {0, 0, -1000},
                new int[] {2, 1, 3}));
        GlyphLines lines = file.font();
        Check.due("no text", paint(lines, 16), 0);
        picture("no text", lines);
        Check.due("one character has no kerning", paint(lines, 16, 0), 160);
        Check.due("the pen may go back", paint(lines, 16, 0, 0), 160 - 16000 + 160);
        // A pixel is 4 units. 11 - 4 = 7 units, then 7 + 12 + 8 = 27 units.
        Check.due("three", paint(lines, 16, 1, 2, 2), 16 * (11 - 4 + 12 + 8 + 12));
        picture("three", lines, 15, 1L << 2 | 1L << 7);
        Check.due("glyph 0 for what is not there", paint(lines, 16, 9, 2), 16 * (10 + 12));
        picture("glyph 0 for what is not there", lines, 15, 1L << 2);
        FontFile wide = FontFile.of(NO_BYTES);
        wide.table("hmtx", new Bytes().u16(65535, 0).done());
        wide.table("kern", FontFile.kern(new int[] {0, 0, 32767}));
        int[] text = new int[12];
        Check.due("the farthest", paint(wide.font(), 24, text), 24 * (12 * 65535 + 11 * 32767));
    }

    private static void rounding() {
        // EM 2048, ppem 4: an eighth of a 64th for each unit.
        int[] widths = {3, 4, 11, 12, 20, 65535};
        int[] due = {0, 1, 1, 2, 3, 8192};
        for (int i = 0; i < widths.length; i++) {
            FontFile file = FontFile.of(NO_BYTES).table("head", FontFile.head(2048, 1));
            file.table("hmtx", new Bytes().u16(widths[i], 0).done());
            Check.due("width " + widths[i], paint(file.font(), 4, 0), due[i]);
        }
        int[] kernings = {-3, -4, -5, -12, -13, 4, 12};
        int[] kerned = {0, 0, -1, -1, -2, 1, 2};
        for (int i = 0; i < kernings.length; i++) {
            FontFile file = FontFile.of(NO_BYTES).table("head", FontFile.head(2048, 1));
            file.table("hmtx", new Bytes().u16(0, 0).done());
            file.table("kern", FontFile.kern(new int[] {0, 0, kernings[i]}));
            Check.due("kerning " + kernings[i], paint(file.font(), 4, 0, 0), kerned[i]);
        }
        FontFile odd = FontFile.of(NO_BYTES).table("head", FontFile.head(99, 1));
        // 10 * 7 * 64 / 99 = 45.25, and each width is rounded by itself.
        Check.due("an odd EM", paint(odd.font(), 7, 0, 0, 0), 135);
    }

    private static void edgesOfPixels() {
        // ppem 4: 8 units are 32, the middle of the first pixel; 24 are 96, that of the next.
        GlyphLines exact = contours(FontFile.box(8, 8, 24, 24));
        paint(exact, 4, 0);
        picture("left and lower edges count, right and upper don't", exact, 15, 1);
        paint(exact, 8, 0);
        picture("from 64 to 192", exact, 14, 6, 13, 6);
        GlyphLines later = contours(FontFile.box(9, 9, 25, 25));
        paint(later, 4, 0);
        picture("a little later", later, 14, 2);
        GlyphLines earlier = contours(FontFile.box(7, 7, 23, 23));
        paint(earlier, 4, 0);
        picture("a little earlier", earlier, 15, 1);
        GlyphLines low = units(FontFile.box(0, 32, 64, 33));
        paint(low, 4, 0);
        picture("a 64th high", low, 15, 1);
        GlyphLines thin = contours(FontFile.box(9, 0, 23, 24));
        paint(thin, 4, 0);
        picture("between two middles", thin);
    }

    private static void rowsAndColumns() {
        // ppem 16: 4 units a pixel. The picture is x 0 .. 192, y -32 .. 64 in units.
        GlyphLines all = contours(FontFile.box(0, -32, 192, 64));
        paint(all, 16, 0);
        for (int r = 0; r < 24; r++) {
            Check.due("all: row(" + r + ")", all.row(r), (1L << 48) - 1);
        }
        GlyphLines corners = contours(FontFile.box(188, 60, 192, 64), FontFile.box(0, -32, 4, -28));
        paint(corners, 16, 0);
        picture("corners", corners, 0, 1L << 47, 23, 1);
    }

    private static void besideThePicture() {
        GlyphLines great = contours(FontFile.box(-4096, -4096, 4095, 4095));
        paint(great, 24, 0);
        for (int r = 0; r < 24; r++) {
            Check.due("far beyond all edges: row(" + r + ")", great.row(r), (1L << 48) - 1);
        }
        GlyphLines beside = contours(FontFile.box(192, 0, 400, 40), FontFile.box(-40, 0, 0, 40),
                FontFile.box(0, 64, 40, 100), FontFile.box(0, -60, 40, -32));
        paint(beside, 16, 0);
        picture("beside the picture", beside);
        GlyphLines half = contours(FontFile.box(-40, 0, 4, 4));
        paint(half, 16, 0);
        picture("from the left into it", half, 15, 1);
    }

    private static void slantedLines() {
        // ppem 16: (0, 0), (0, 16), (16, 0) are a triangle of 4 pixels; the middles on its long
        // side are met at their own x: they are not inside.
        GlyphLines lower = contours(FontFile.lines(0, 0, 0, 16, 16, 0));
        paint(lower, 16, 0);
        picture("lower left", lower, 15, 7, 14, 3, 13, 1);
        GlyphLines upper = contours(FontFile.lines(16, 16, 16, 0, 0, 16));
        paint(upper, 16, 0);
        picture("upper right", upper, 15, 8, 14, 12, 13, 14, 12, 15);
        // The side from (0, 0) to (7, 16): x = 7 / 16 y, at the middles 14, 42, 70, 98 of 64ths.
        GlyphLines steep = contours(FontFile.lines(0, 0, 7, 16, 16, 16, 16, 0));
        paint(steep, 16, 0);
        picture("steep", steep, 15, 15, 14, 14, 13, 14, 12, 12);
        // EM 128, ppem 4: a unit is 2. The middle's row, 32, is a third of the way from 30 to 36.
        besideTheMiddle(16, 17, false);
        besideTheMiddle(16, 15, true);
        besideTheMiddle(17, 15, false);
        besideTheMiddle(17, 13, true);
        besideTheMiddle(15, 18, true);
        besideTheMiddle(15, 19, false);
    }

    /** A side from lower to upper, met at an x that is above the first middle's or not. */
    private static void besideTheMiddle(int lower, int upper, boolean notAbove) {
        byte[] asLeft = FontFile.simple(FontFile.lines(lower, 15, upper, 18, 40, 18, 40, 15));
        byte[] asRight = FontFile.simple(FontFile.lines(0, 15, 0, 18, upper, 18, lower, 15));
        GlyphLines lines = FontFile.of(asLeft, asRight).table("head", FontFile.head(128, 1)).font();
        String what = "a side from " + lower + " to " + upper;
        paint(lines, 4, 0);
        picture(what + ", left", lines, 15, notAbove ? 1 : 0);
        paint(lines, 4, 1);
        picture(what + ", right", lines, 15, notAbove ? 0 : 1);
    }

    private static void windings() {
        int[] outer = FontFile.box(0, 0, 16, 16);
        int[] inner = FontFile.box(4, 4, 12, 12);
        int[] innerBack = FontFile.lines(4, 4, 12, 4, 12, 12, 4, 12);
        GlyphLines same = contours(outer, inner);
        paint(same, 16, 0);
        picture("the same way round", same, 12, 15, 13, 15, 14, 15, 15, 15);
        GlyphLines hole = contours(outer, innerBack);
        paint(hole, 16, 0);
        picture("a hole", hole, 12, 15, 13, 9, 14, 9, 15, 15);
        GlyphLines twice = contours(outer, outer, innerBack);
        paint(twice, 16, 0);
        picture("2 - 1", twice, 12, 15, 13, 15, 14, 15, 15, 15);
        GlyphLines below = contours(innerBack);
        paint(below, 16, 0);
        picture("-1", below, 13, 6, 14, 6);
        GlyphLines parts = font(FontFile.simple(outer), FontFile.simple(innerBack),
                FontFile.composed(FontFile.part(1 << 5, 0, 0, 0), FontFile.part(0, 1, 0, 0)));
        paint(parts, 16, 2);
        picture("a hole of a part in a part", parts, 12, 15, 13, 9, 14, 9, 15, 15);
    }

    private static void glyphsDoNotCancel() {
        FontFile file = FontFile.of(FontFile.simple(FontFile.box(0, 0, 8, 4)),
                FontFile.simple(FontFile.lines(4, 0, 12, 0, 12, 4, 4, 4)));
        file.table("hmtx", new Bytes().u16(0, 0, 0, 0).done());
        GlyphLines lines = file.font();
        paint(lines, 16, 0, 1);
        picture("one over the other", lines, 15, 7);
    }

    private static void emptyPictureFirst() {
        GlyphLines lines = font(FontFile.simple(FontFile.box(0, 0, 8, 4)),
                FontFile.simple(FontFile.box(0, 4, 4, 8)));
        paint(lines, 16, 0);
        picture("the first", lines, 15, 3);
        Check.due("wipe() leaves the picture", lines.wipe(), 1);
        picture("the first still", lines, 15, 3);
        lines.type(1);
        picture("type() leaves the picture", lines, 15, 3);
        lines.load(true);
        picture("load() leaves the picture", lines, 15, 3);
        lines.paint(16);
        picture("the second alone", lines, 14, 1);
        lines.wipe();
        Check.due("paint of no text", lines.paint(16), 0);
        picture("nothing", lines);
    }

    private static void fewPoints() {
        GlyphLines lines = contours(new int[] {3, 3, 1}, new int[] {9, 9, 0},
                new int[] {0, 0, 1, 20, 20, 1}, new int[] {0, 0, 0, 30, 30, 0});
        paint(lines, 24, 0);
        picture("points and lines there and back", lines);
    }

    private static void curveByHand() {
        // ppem 16: P 0, 0, Q 0, 512, R 512, 512; |u x v| = 512 * 512 above 4 * 512. M is 128, 384.
        // Then 32, 224 and 288, 480 too are points of the curve, and middles: these are set. The line
        // from R to P closes it; the middles on it are not set.
        GlyphLines lines = contours(new int[] {0, 0, 1, 0, 32, 0, 32, 32, 1});
        paint(lines, 16, 0);
        picture("a quarter", lines, 14, 1, 13, 3, 12, 7, 11, 14, 10, 28, 9, 56, 8, 112);
    }

    private static void flatCurves() {
        // EM 256, ppem 4: a unit is a 64th. |u x v| is 4 * 192, not above 4 * m: a line below 32.
        int[] rest = {192, 31, 1, 192, -20, 1, 0, -20, 1};
        GlyphLines flat = units(join(new int[] {0, 31, 1, 96, 35, 0}, rest));
        paint(flat, 4, 0);
        picture("flat enough", flat);
        // Here it is 5 * 192: parted at 96, 33, which gives lines that meet 32 at 48 and 144.
        GlyphLines parted = units(join(new int[] {0, 31, 1, 96, 36, 0}, rest));
        paint(parted, 4, 0);
        picture("parted once", parted, 15, 2);
        // The same from top to bottom, m being |Ry - Py|.
        int[] side = {31, 192, 1, -20, 192, 1, -20, 0, 1};
        GlyphLines flatSide = units(join(new int[] {31, 0, 1, 35, 96, 0}, side));
        paint(flatSide, 4, 0);
        picture("flat enough, upright", flatSide);
        GlyphLines partedSide = units(join(new int[] {31, 0, 1, 36, 96, 0}, side));
        paint(partedSide, 4, 0);
        picture("parted once, upright", partedSide, 14, 1);
    }

    private static GlyphLines units(int[] contour) {
        return FontFile.of(FontFile.simple(contour)).table("head", FontFile.head(256, 1)).font();
    }

    private static int[] join(int[] one, int[] other) {
        int[] both = Arrays.copyOf(one, one.length + other.length);
        System.arraycopy(other, 0, both, one.length, other.length);
        return both;
    }

    private static void halfWayIsRoundedDown() {
        // The point put in is 32, 96, a middle's x; 33, 96 would be too far right.
        GlyphLines side = units(new int[] {33, 0, 1, 33, 64, 0, 32, 128, 0, 34, 192, 1, 90, 192, 1, 90, 0, 1});
        paint(side, 4, 0);
        picture("put in at 32, 96", side, 14, 1);
        // The point put in is 96, 32, not above the middles' y; 96, 33 would be.
        GlyphLines top = units(new int[] {0, 31, 1, 64, 33, 0, 128, 32, 0, 192, 31, 1, 192, -20, 1, 0, -20, 1});
        paint(top, 4, 0);
        picture("put in at 96, 32", top);
        GlyphLines below = units(new int[] {0, -33, 1, 64, -31, 0, 128, -32, 0, 192, -33, 1, 192, -60, 1, 0, -60, 1});
        paint(below, 4, 0);
        picture("put in at 96, -32", below);
    }

    private static void greatCurves() {
        // Curves so great that the seventh parting is missed; the due rows are those of Plain.
        int[] great = {-400, -4000, 1, 60, -200, 0, 100, 60, 1, 500, 4000, 0, 4000, 4095, 1, 4095, -4096, 1};
        int[] back = {4000, 4095, 1, 500, 4000, 0, 100, 60, 1, 60, -200, 0, -400, -4000, 1, -4096, 4095, 1};
        asPlain("great curves", great);
        asPlain("great curves, the other way", back);
    }

    private static void manyPointsPutIn() {
        int[] star = new int[72];
        for (int i = 0; i < 24; i++) {
            double turn = 2 * Math.PI * i / 24;
            int radius = i % 2 == 0 ? 32 : 12;
            star[3 * i] = 32 + (int) (radius * Math.cos(turn));
            star[3 * i + 1] = 16 + (int) (radius * Math.sin(turn));
        }
        asPlain("24 points, none ON", star);
    }

    private static void asPlain(String what, int[] contour) {
        FontFile file = FontFile.of(FontFile.simple(contour));
        GlyphLines lines = file.font();
        Plain plain = new Plain();
        for (int word : FontFile.words(file.done())) {
            plain.feed(word);
        }
        Check.due(what + ": load", plain.load(true), 1);
        plain.type(0);
        for (int ppem = 4; ppem <= 24; ppem += 4) {
            Check.due(what + ": paint", paint(lines, ppem, 0), plain.paint(ppem));
            for (int r = 0; r < 24; r++) {
                Check.due(what + ": row(" + r + ")", lines.row(r), plain.row(r));
            }
        }
    }

    private static void curveBackToItsBeginning() {
        GlyphLines lines = contours(new int[] {0, 0, 1, 40, 40, 0});
        paint(lines, 24, 0);
        picture("there and back", lines);
    }

    private static void pointsPutIn() {
        // Four points that are not ON: a round shape that touches the middles of a box's sides.
        GlyphLines round = contours(new int[] {0, 0, 0, 0, 32, 0, 32, 32, 0, 32, 0, 0});
        GlyphLines written = contours(new int[] {0, 16, 1, 0, 32, 0, 16, 32, 1, 32, 32, 0,
            32, 16, 1, 32, 0, 0, 16, 0, 1, 0, 0, 0});
        paint(round, 16, 0);
        paint(written, 16, 0);
        picture("round", round, 8, 60, 9, 126, 10, 255, 11, 255, 12, 255, 13, 255, 14, 126, 15, 60);
        for (int r = 0; r < 24; r++) {
            Check.due("put in or written: row(" + r + ")", round.row(r), written.row(r));
        }
        // The ring begins with one that is not ON, and ends with one that is.
        GlyphLines turned = contours(new int[] {0, 32, 0, 32, 32, 1, 0, 0, 1});
        paint(turned, 16, 0);
        picture("a quarter, turned", turned, 14, 1, 13, 3, 12, 7, 11, 14, 10, 28, 9, 56, 8, 112);
    }
}
