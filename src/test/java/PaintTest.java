/** Promises 13 and 14, and of the terms: THE PICTURE and its WINDINGS. */
public final class PaintTest {
    private static final long FULL_ROW = (1L << 48) - 1;

    private PaintTest() {
    }

    public static void main(String[] args) {
        withoutAFont();
        ppemOnBothSides();
        paintThatThrowsLeavesThePicture();
        rowsOnBothSides();
        pictureIsEmptyFirst();
        onlyPaintChangesThePicture();
        paintedOften();
        lowerAndUpperEnds();
        leftAndRightSides();
        betweenTwoMiddles();
        rowsAndColumns();
        besideThePicture();
        farBeyondThePicture();
        slantedLines();
        besideTheMiddle();
        levelLines();
        windings();
        glyphsDoNotCancel();
        Check.end();
    }

    private static void withoutAFont() {
        GlyphLines none = new GlyphLines();
        none.type(65);
        Check.state("paint(4)", () -> none.paint(4));
        Check.state("paint(3): the first exception wins", () -> none.paint(3));
        Check.state("paint(25): the first exception wins", () -> none.paint(25));
        Check.due("the text stays", none.wipe(), 1);
    }

    private static void ppemOnBothSides() {
        GlyphLines lines = Painted.contours(FontFile.box(0, 0, 64, 64));
        for (int ppem : new int[] {Integer.MIN_VALUE, -16, 0, 3, 25, 26, 260, Integer.MAX_VALUE}) {
            Check.argument("paint(" + ppem + ")", () -> lines.paint(ppem));
        }
        Check.due("paint(4)", Painted.paint(lines, 4, 0), 40);
        Painted.picture("4 by 4", lines, 15, 15, 14, 15, 13, 15, 12, 15);
        Check.due("paint(24)", Painted.paint(lines, 24, 0), 240);
        for (int r = 0; r < 24; r++) {
            Check.due("24 by 24: row(" + r + ")", lines.row(r), r < 16 ? (1L << 24) - 1 : 0);
        }
    }

    private static void paintThatThrowsLeavesThePicture() {
        GlyphLines lines = Painted.contours(FontFile.box(0, 0, 4, 4));
        Check.due("paint(16)", Painted.paint(lines, 16, 0), 160);
        lines.type(0);
        Check.argument("paint(3)", () -> lines.paint(3));
        Check.argument("paint(25)", () -> lines.paint(25));
        Painted.picture("the picture of before", lines, 15, 1);
        Check.due("the text of before", lines.paint(16), 320);
    }

    private static void rowsOnBothSides() {
        GlyphLines none = new GlyphLines();
        Check.due("row(0) of a new object", none.row(0), 0);
        Check.due("row(23) of a new object", none.row(23), 0);
        GlyphLines all = Painted.contours(FontFile.box(0, -32, 192, 64));
        Painted.paint(all, 16, 0);
        for (int r : new int[] {Integer.MIN_VALUE, -1, 24, 25, Integer.MAX_VALUE}) {
            Check.index("row(" + r + ") of a new object", () -> none.row(r));
            Check.index("row(" + r + ")", () -> all.row(r));
        }
        Check.due("row(0)", all.row(0), FULL_ROW);
        Check.due("row(23)", all.row(23), FULL_ROW);
    }

    private static void pictureIsEmptyFirst() {
        GlyphLines lines = Painted.font(FontFile.simple(FontFile.box(0, 0, 8, 4)),
                FontFile.simple(FontFile.box(0, 4, 4, 8)));
        Painted.paint(lines, 16, 0);
        Painted.picture("the first", lines, 15, 3);
        Painted.paint(lines, 16, 1);
        Painted.picture("the second alone", lines, 14, 1);
        Check.due("paint of no text", Painted.paint(lines, 16), 0);
        Painted.picture("nothing", lines);
    }

    private static void onlyPaintChangesThePicture() {
        GlyphLines lines = Painted.font(FontFile.simple(FontFile.box(0, 0, 8, 4)),
                FontFile.simple(FontFile.box(0, 4, 4, 8)));
        Painted.paint(lines, 16, 0);
        Check.due("wipe()", lines.wipe(), 1);
        Painted.picture("behind wipe()", lines, 15, 3);
        lines.type(1);
        Painted.picture("behind type()", lines, 15, 3);
        lines.load(true);
        Painted.picture("behind load()", lines, 15, 3);
        lines.cut(0);
        lines.feed(1);
        lines.load(true);
        Painted.picture("behind a load() that fails", lines, 15, 3);
        lines.paint(16);
        Painted.picture("the second alone", lines, 14, 1);
    }

    /** A box of 64ths from bottom to top, over the middle of pixel 0. */
    private static void high(int bottom, int top, long... due) {
        GlyphLines up = Painted.units(FontFile.box(0, bottom, 64, top));
        Painted.paint(up, 4, 0);
        Painted.picture("from " + bottom + " to " + top, up, due);
        GlyphLines down = Painted.units(FontFile.lines(0, bottom, 64, bottom, 64, top, 0, top));
        Painted.paint(down, 4, 0);
        Painted.picture("from " + bottom + " to " + top + ", the other way round", down, due);
    }

    private static void paintedOften() {
        FontFile file = FontFile.of(FontFile.simple(FontFile.box(0, 0, 64, 64)));
        GlyphLines lines = file.font();
        lines.type(0);
        // An object is used for at most 512 calls: those of into and load, type, and these; then one row.
        int used = FontFile.words(file.done()).length + 4;
        int ppem = 4;
        for (int call = used + 1; call < 512; call++) {
            ppem = 4 + call % 21;
            Check.due("paint(" + ppem + "), call " + call, lines.paint(ppem), 10 * ppem);
        }
        Check.due("row(15), call 512", lines.row(15), (1L << ppem) - 1);
    }

    private static void lowerAndUpperEnds() {
        // The middle of row 15 is at 32, that of row 16 at -32.
        high(31, 33, 15, 1);
        high(32, 33, 15, 1);
        high(33, 34);
        high(31, 32);
        high(0, 32);
        high(0, 33, 15, 1);
        high(-32, -31, 16, 1);
        high(-33, -32);
        high(-31, 32);
        high(-32, 33, 15, 1, 16, 1);
        high(32, 96, 15, 1);
        high(32, 97, 14, 1, 15, 1);
    }

    /** A box of 64ths from left to right, over the middle of row 15. */
    private static void wide(int left, int right, long due) {
        GlyphLines up = Painted.units(FontFile.box(left, 0, right, 64));
        Painted.paint(up, 4, 0);
        Painted.picture("from " + left + " to " + right, up, 15, due);
        GlyphLines down = Painted.units(FontFile.lines(left, 0, right, 0, right, 64, left, 64));
        Painted.paint(down, 4, 0);
        Painted.picture("from " + left + " to " + right + ", the other way round", down, 15, due);
    }

    private static void leftAndRightSides() {
        wide(31, 33, 1);
        wide(32, 33, 1);
        wide(33, 34, 0);
        wide(31, 32, 0);
        wide(0, 32, 0);
        wide(0, 33, 1);
        wide(32, 96, 1);
        wide(32, 97, 3);
        wide(33, 97, 2);
        wide(-64, 33, 1);
    }

    private static void betweenTwoMiddles() {
        wide(33, 95, 0);
        high(33, 95);
        high(-31, 31);
    }

    private static void rowsAndColumns() {
        // ppem 16: 4 units a pixel. The picture is x 0 .. 192, y -32 .. 64 in units.
        GlyphLines all = Painted.contours(FontFile.box(0, -32, 192, 64));
        Painted.paint(all, 16, 0);
        for (int r = 0; r < 24; r++) {
            Check.due("all: row(" + r + ")", all.row(r), FULL_ROW);
        }
        GlyphLines corners = Painted.contours(FontFile.box(188, 60, 192, 64), FontFile.box(0, -32, 4, -28),
                FontFile.box(0, 60, 4, 64), FontFile.box(188, -32, 192, -28));
        Painted.paint(corners, 16, 0);
        Painted.picture("corners", corners, 0, 1L << 47 | 1, 23, 1L << 47 | 1);
        GlyphLines base = Painted.contours(FontFile.box(4, 0, 8, 4), FontFile.box(0, -4, 4, 0));
        Painted.paint(base, 16, 0);
        Painted.picture("above and below the base line", base, 15, 2, 16, 1);
    }

    private static void besideThePicture() {
        GlyphLines beside = Painted.contours(FontFile.box(192, 0, 400, 40), FontFile.box(-40, 0, 0, 40),
                FontFile.box(0, 64, 40, 100), FontFile.box(0, -60, 40, -32));
        Painted.paint(beside, 16, 0);
        Painted.picture("beside the picture", beside);
        GlyphLines into = Painted.contours(FontFile.box(-40, 0, 4, 4), FontFile.box(188, 0, 400, 4),
                FontFile.box(8, 60, 12, 100), FontFile.box(8, -60, 12, -28));
        Painted.paint(into, 16, 0);
        Painted.picture("from beside into it", into, 0, 4, 15, 1L << 47 | 1, 23, 4);
        GlyphLines moved = FontFile.of(FontFile.simple(FontFile.box(0, 0, 4, 4)))
                .table("hmtx", new Bytes().u16(188, 0).done()).font();
        Painted.paint(moved, 16, 0, 0, 0);
        Painted.picture("the second at 47, the third at 94", moved, 15, 1L << 47 | 1);
    }

    private static void farBeyondThePicture() {
        GlyphLines great = Painted.contours(FontFile.box(-4096, -4096, 4095, 4095));
        Painted.paint(great, 24, 0);
        for (int r = 0; r < 24; r++) {
            Check.due("far beyond all edges: row(" + r + ")", great.row(r), FULL_ROW);
        }
        GlyphLines far = FontFile.of(FontFile.simple(FontFile.box(-4096, -4096, 4095, 4095)))
                .table("hmtx", new Bytes().u16(65535, 0).done())
                .table("kern", FontFile.kern(new int[] {0, 0, -32768})).font();
        Check.due("the pen", Painted.paint(far, 24, 0, 0, 0), 24 * (3 * 65535 - 2 * 32768));
        for (int r = 0; r < 24; r++) {
            Check.due("the first alone: row(" + r + ")", far.row(r), FULL_ROW);
        }
    }

    private static void slantedLines() {
        // ppem 16: (0, 0), (0, 16), (16, 0) are a triangle of 4 pixels; the middles on its long
        // side are met at their own x: they are not inside.
        GlyphLines lower = Painted.contours(FontFile.lines(0, 0, 0, 16, 16, 0));
        Painted.paint(lower, 16, 0);
        Painted.picture("lower left", lower, 15, 7, 14, 3, 13, 1);
        GlyphLines upper = Painted.contours(FontFile.lines(16, 16, 16, 0, 0, 16));
        Painted.paint(upper, 16, 0);
        Painted.picture("upper right", upper, 15, 8, 14, 12, 13, 14, 12, 15);
        // The side from (0, 0) to (7, 16): x = 7 / 16 y, at the middles 14, 42, 70, 98 of 64ths.
        GlyphLines steep = Painted.contours(FontFile.lines(0, 0, 7, 16, 16, 16, 16, 0));
        Painted.paint(steep, 16, 0);
        Painted.picture("steep", steep, 15, 15, 14, 14, 13, 14, 12, 12);
    }

    private static void besideTheMiddle() {
        // EM 128, ppem 4: a unit is 2. The middle's row, 32, is a third of the way from 30 to 36.
        besideTheMiddle(16, 17, false);
        besideTheMiddle(16, 15, true);
        besideTheMiddle(17, 15, false);
        besideTheMiddle(17, 14, true);
        besideTheMiddle(17, 13, true);
        besideTheMiddle(15, 18, true);
        besideTheMiddle(15, 19, false);
        besideTheMiddle(16, 16, true);
    }

    /** A side from lower to upper, met at an x that is above the first middle's or not. */
    private static void besideTheMiddle(int lower, int upper, boolean notAbove) {
        byte[] asLeft = FontFile.simple(FontFile.lines(lower, 15, upper, 18, 40, 18, 40, 15));
        byte[] asRight = FontFile.simple(FontFile.lines(0, 15, 0, 18, upper, 18, lower, 15));
        GlyphLines lines = FontFile.of(asLeft, asRight).table("head", FontFile.head(128, 1)).font();
        String what = "a side from " + lower + " to " + upper;
        Painted.paint(lines, 4, 0);
        Painted.picture(what + ", left", lines, 15, notAbove ? 1 : 0);
        Painted.paint(lines, 4, 1);
        Painted.picture(what + ", right", lines, 15, notAbove ? 0 : 1);
    }

    private static void levelLines() {
        // A step whose level side lies on the middles' row: below it there is something, above it nothing.
        GlyphLines step = Painted.units(FontFile.lines(0, 0, 0, 100, 64, 100, 64, 32, 128, 32, 128, 0));
        Painted.paint(step, 4, 0);
        Painted.picture("a step at 32", step, 15, 1, 14, 1);
        GlyphLines higher = Painted.units(FontFile.lines(0, 0, 0, 100, 64, 100, 64, 33, 128, 33, 128, 0));
        Painted.paint(higher, 4, 0);
        Painted.picture("a step at 33", higher, 15, 3, 14, 1);
    }

    private static void windings() {
        int[] outer = FontFile.box(0, 0, 16, 16);
        int[] inner = FontFile.box(4, 4, 12, 12);
        int[] innerBack = FontFile.lines(4, 4, 12, 4, 12, 12, 4, 12);
        GlyphLines same = Painted.contours(outer, inner);
        Painted.paint(same, 16, 0);
        Painted.picture("1 + 1", same, 12, 15, 13, 15, 14, 15, 15, 15);
        GlyphLines hole = Painted.contours(outer, innerBack);
        Painted.paint(hole, 16, 0);
        Painted.picture("1 - 1", hole, 12, 15, 13, 9, 14, 9, 15, 15);
        GlyphLines twice = Painted.contours(outer, outer, innerBack);
        Painted.paint(twice, 16, 0);
        Painted.picture("2 - 1", twice, 12, 15, 13, 15, 14, 15, 15, 15);
        GlyphLines less = Painted.contours(outer, innerBack, innerBack);
        Painted.paint(less, 16, 0);
        Painted.picture("1 - 2", less, 12, 15, 13, 15, 14, 15, 15, 15);
        GlyphLines below = Painted.contours(innerBack);
        Painted.paint(below, 16, 0);
        Painted.picture("-1", below, 13, 6, 14, 6);
        GlyphLines parts = Painted.font(FontFile.simple(outer), FontFile.simple(innerBack),
                FontFile.composed(FontFile.part(1 << 5, 0, 0, 0), FontFile.part(0, 1, 0, 0)));
        Painted.paint(parts, 16, 2);
        Painted.picture("a hole of a part in a part", parts, 12, 15, 13, 9, 14, 9, 15, 15);
    }

    private static void glyphsDoNotCancel() {
        FontFile file = FontFile.of(FontFile.simple(FontFile.box(0, 0, 8, 4)),
                FontFile.simple(FontFile.lines(4, 0, 12, 0, 12, 4, 4, 4)));
        file.table("hmtx", new Bytes().u16(0, 0, 0, 0).done());
        GlyphLines lines = file.font();
        Painted.paint(lines, 16, 0, 1);
        Painted.picture("one over the other", lines, 15, 7);
        Painted.paint(lines, 16, 1, 0, 1);
        Painted.picture("one over the other, and again", lines, 15, 7);
    }
}
