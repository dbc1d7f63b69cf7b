/** Promise 13, and of the terms: SCALED, and the PEN's way along THE LINE. */
public final class ScaleTest {
    private static final byte[] NO_BYTES = {};

    private ScaleTest() {
    }

    public static void main(String[] args) {
        penIsZeroAtFirst();
        halvesGoUp();
        halvesGoUpBelowZero();
        besideTheHalves();
        greatestNumbers();
        eachIsRoundedByItself();
        everyPpem();
        noKerningForTheFirst();
        kerningOfTheGlyphBefore();
        kerningBeforeWidthBehind();
        glyphsByCharacters();
        widthsFromHOn();
        mostCharacters();
        xIsRounded();
        yIsRounded();
        xIsMovedWhenItIsScaled();
        Check.end();
    }

    private static int width(int em, int ppem, int width) {
        FontFile file = FontFile.of(NO_BYTES).table("head", FontFile.head(em, 1));
        return Painted.paint(file.table("hmtx", new Bytes().u16(width, 0).done()).font(), ppem, 0);
    }

    private static int kerning(int em, int ppem, int kerning) {
        FontFile file = FontFile.of(NO_BYTES).table("head", FontFile.head(em, 1));
        file.table("hmtx", new Bytes().u16(0, 0).done());
        file.table("kern", FontFile.kern(new int[] {0, 0, kerning}));
        return Painted.paint(file.font(), ppem, 0, 0);
    }

    private static void penIsZeroAtFirst() {
        GlyphLines lines = FontFile.of(NO_BYTES).font();
        Check.due("no text", Painted.paint(lines, 16), 0);
        Check.due("one character", Painted.paint(lines, 16, 0), 160);
        Check.due("one character again", Painted.paint(lines, 16, 0), 160);
        Check.due("no text again", Painted.paint(lines, 16), 0);
    }

    private static void halvesGoUp() {
        // EM 2048, ppem 4: an eighth of a 64th for each unit.
        int[] widths = {0, 3, 4, 5, 11, 12, 13, 19, 20, 21};
        int[] due = {0, 0, 1, 1, 1, 2, 2, 2, 3, 3};
        for (int i = 0; i < widths.length; i++) {
            Check.due("width " + widths[i], width(2048, 4, widths[i]), due[i]);
        }
    }

    private static void halvesGoUpBelowZero() {
        int[] kernings = {-3, -4, -5, -8, -11, -12, -13, -20, -21, 3, 4, 12};
        int[] due = {0, 0, -1, -1, -1, -1, -2, -2, -3, 0, 1, 2};
        for (int i = 0; i < kernings.length; i++) {
            Check.due("kerning " + kernings[i], kerning(2048, 4, kernings[i]), due[i]);
        }
    }

    private static void besideTheHalves() {
        // 57 * 256 is 224 * 65 + 32, 8 * 256 is 31 * 65 + 33: a little below and above a half of 65.
        Check.due("224 and 32 65ths", width(65, 4, 57), 224);
        Check.due("31 and 33 65ths", width(65, 4, 8), 32);
        Check.due("-224 and 32 65ths", kerning(65, 4, -57), -224);
        Check.due("-31 and 33 65ths", kerning(65, 4, -8), -32);
    }

    private static void greatestNumbers() {
        Check.due("the greatest width", width(64, 24, 65535), 24 * 65535);
        Check.due("the greatest width, EM 2048", width(2048, 4, 65535), 8192);
        Check.due("the greatest kerning", kerning(64, 24, 32767), 24 * 32767);
        Check.due("the least kerning", kerning(64, 24, -32768), -24 * 32768);
        Check.due("the least kerning, EM 2048", kerning(2048, 4, -32768), -4096);
        // 65535 * 24 * 64 / 2047 is 49175.2..; 65535 * 23 * 64 / 65 is 1484115.6..
        Check.due("the greatest width, EM 2047", width(2047, 24, 65535), 49175);
        Check.due("the greatest width, EM 65", width(65, 23, 65535), 1484116);
    }

    private static void eachIsRoundedByItself() {
        // Widths of a half each, and kernings of minus a half.
        FontFile file = FontFile.of(NO_BYTES).table("head", FontFile.head(2048, 1));
        file.table("hmtx", new Bytes().u16(4, 0).done());
        Check.due("3 widths", Painted.paint(file.font(), 4, 0, 0, 0), 3);
        file.table("kern", FontFile.kern(new int[] {0, 0, -4}));
        Check.due("3 widths, 2 kernings", Painted.paint(file.font(), 4, 0, 0, 0), 3);
        file.table("kern", FontFile.kern(new int[] {0, 0, -5}));
        Check.due("3 widths, 2 greater kernings", Painted.paint(file.font(), 4, 0, 0, 0), 1);
        FontFile odd = FontFile.of(NO_BYTES).table("head", FontFile.head(99, 1));
        // 10 * 7 * 64 / 99 = 45.25
        Check.due("an odd EM", Painted.paint(odd.font(), 7, 0, 0, 0), 135);
    }

    private static void everyPpem() {
        GlyphLines lines = FontFile.of(NO_BYTES).font();
        for (int ppem = 4; ppem <= 24; ppem++) {
            Check.due("paint(" + ppem + ")", Painted.paint(lines, ppem, 0), 10 * ppem);
        }
        for (int ppem : new int[] {3, 25, 0, -1, -4, Integer.MIN_VALUE, Integer.MAX_VALUE}) {
            Check.argument("paint(" + ppem + ")", () -> lines.paint(ppem));
        }
    }

    /** Widths 10, 11, 12; a unit is 16 64ths with ppem 16, a pixel is 4 units. */
    private static FontFile three() {
        byte[] box = FontFile.simple(FontFile.box(0, 0, 4, 4));
        return FontFile.of(NO_BYTES, NO_BYTES, box);
    }

    private static void noKerningForTheFirst() {
        FontFile file = three().table("kern", FontFile.kern(new int[] {0, 0, -1000}, new int[] {0, 1, 500}));
        GlyphLines lines = file.font();
        Check.due("one has none", Painted.paint(lines, 16, 0), 16 * 10);
        Check.due("the second has one", Painted.paint(lines, 16, 0, 0), 16 * (10 - 1000 + 10));
        // Were the last glyph of the text before remembered, it would be kerned.
        Check.due("one has none again", Painted.paint(lines, 16, 0), 16 * 10);
        Check.due("the first has none", Painted.paint(lines, 16, 1), 16 * 11);
    }

    private static void kerningOfTheGlyphBefore() {
        FontFile file = three().table("kern", FontFile.kern(new int[] {0, 1, 100}, new int[] {1, 2, 200}));
        GlyphLines lines = file.font();
        Check.due("0 1", Painted.paint(lines, 16, 0, 1), 16 * (21 + 100));
        Check.due("1 0", Painted.paint(lines, 16, 1, 0), 16 * 21);
        Check.due("0 1 2", Painted.paint(lines, 16, 0, 1, 2), 16 * (33 + 300));
        Check.due("0 2 1", Painted.paint(lines, 16, 0, 2, 1), 16 * 33);
        Check.due("1 0 2", Painted.paint(lines, 16, 1, 0, 2), 16 * 33);
    }

    private static void kerningBeforeWidthBehind() {
        FontFile file = three().table("kern", FontFile.kern(new int[] {1, 2, -3}, new int[] {2, 2, 4}));
        GlyphLines lines = file.font();
        Painted.paint(lines, 16, 2);
        Painted.picture("the first stands at 0", lines, 15, 1);
        // 11 - 3 = 8 units are 2 pixels; 8 + 12 + 4 = 24 units are 6 pixels.
        Painted.paint(lines, 16, 1, 2, 2);
        Painted.picture("moved by width and kerning", lines, 15, 1L << 2 | 1L << 6);
        FontFile back = three().table("kern", FontFile.kern(new int[] {0, 2, -10}, new int[] {1, 2, -12}));
        GlyphLines less = back.font();
        Painted.paint(less, 16, 0, 2);
        Painted.picture("back to 0", less, 15, 1);
        Painted.paint(less, 16, 1, 2);
        Painted.picture("back by a quarter of a pixel more", less, 15, 1);
        Check.due("the pen may be below 0", kerning(64, 16, -1), -16);
    }

    private static void glyphsByCharacters() {
        FontFile file = three().table("cmap", FontFile.cmap(FontFile.range(65, 66, -64, 0),
                FontFile.range(65535, 65535, 3, 0)));
        GlyphLines lines = file.font();
        Check.due("65: glyph 1", Painted.paint(lines, 16, 65), 16 * 11);
        Check.due("66: glyph 2", Painted.paint(lines, 16, 66), 16 * 12);
        Painted.picture("glyph 2", lines, 15, 1);
        Check.due("64 and 67: glyph 0", Painted.paint(lines, 16, 64, 67), 16 * 20);
        Check.due("65535: glyph 2", Painted.paint(lines, 16, 65535), 16 * 12);
        Check.due("0: glyph 0", Painted.paint(lines, 16, 0), 16 * 10);
    }

    private static void widthsFromHOn() {
        GlyphLines lines = three().put16("hhea", 34, 2).font();
        Check.due("glyph 1", Painted.paint(lines, 16, 1), 16 * 11);
        Check.due("glyph 2 is as wide as glyph 1", Painted.paint(lines, 16, 2), 16 * 11);
    }

    private static void mostCharacters() {
        FontFile wide = FontFile.of(NO_BYTES);
        wide.table("hmtx", new Bytes().u16(65535, 0).done());
        wide.table("kern", FontFile.kern(new int[] {0, 0, 32767}));
        Check.due("the farthest", Painted.paint(wide.font(), 24, new int[12]), 24 * (12 * 65535 + 11 * 32767));
        wide.table("hmtx", new Bytes().u16(0, 0).done());
        wide.table("kern", FontFile.kern(new int[] {0, 0, -32768}));
        Check.due("the farthest back", Painted.paint(wide.font(), 24, new int[12]), -24 * 11 * 32768);
        GlyphLines dots = FontFile.of(FontFile.simple(FontFile.box(0, 0, 4, 4)))
                .table("hmtx", new Bytes().u16(16, 0).done()).font();
        Painted.paint(dots, 16, new int[12]);
        Painted.picture("12 dots, the last at 44", dots, 15, 0x111111111111L);
    }

    /** EM 2048, ppem 4: an eighth of a 64th for each unit. */
    private static GlyphLines eighths(int[] contour, int width) {
        FontFile file = FontFile.of(FontFile.simple(contour)).table("head", FontFile.head(2048, 1));
        return file.table("hmtx", new Bytes().u16(width, 0).done()).font();
    }

    private static void xIsRounded() {
        // The middle of pixel 0 is at 32, that is 256 units.
        GlyphLines below = eighths(FontFile.box(259, 0, 700, 512), 0);
        Painted.paint(below, 4, 0);
        Painted.picture("32.375 becomes 32", below, 15, 1);
        GlyphLines half = eighths(FontFile.box(260, 0, 767, 512), 0);
        Painted.paint(half, 4, 0);
        Painted.picture("32.5 becomes 33", half);
    }

    private static void yIsRounded() {
        GlyphLines below = eighths(FontFile.box(0, 259, 512, 700), 0);
        Painted.paint(below, 4, 0);
        Painted.picture("32.375 becomes 32", below, 15, 1);
        GlyphLines half = eighths(FontFile.box(0, 260, 512, 700), 0);
        Painted.paint(half, 4, 0);
        Painted.picture("32.5 becomes 33", half);
        // The middle of row 16 is at -32: an upper side must be above it.
        GlyphLines above = eighths(FontFile.box(0, -500, 512, -252), 0);
        Painted.paint(above, 4, 0);
        Painted.picture("-31.5 becomes -31", above, 16, 1);
        GlyphLines less = eighths(FontFile.box(0, -500, 512, -253), 0);
        Painted.paint(less, 4, 0);
        Painted.picture("-31.625 becomes -32", less);
    }

    private static void xIsMovedWhenItIsScaled() {
        // -31.5 becomes -31, and the pen is at 64: 33, behind the middle of pixel 0.
        GlyphLines half = eighths(FontFile.box(-252, 0, 200, 512), 512);
        Painted.paint(half, 4, 0, 0);
        Painted.picture("-31.5 and 64", half);
        GlyphLines less = eighths(FontFile.box(-253, 0, 200, 512), 512);
        Painted.paint(less, 4, 0, 0);
        Painted.picture("-31.625 and 64", less, 15, 1);
        // 63.5 becomes 64, and 32.5 becomes 33; in one they would be 96, the middle of pixel 1.
        GlyphLines both = eighths(FontFile.box(260, 0, 740, 512), 508);
        Painted.paint(both, 4, 0, 0);
        Painted.picture("32.5 and 63.5", both);
    }
}
