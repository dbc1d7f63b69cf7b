/** Fonts made to be painted, and the pictures that are due. */
final class Painted {
    private Painted() {
    }

    /** EM 64: with ppem 4 a unit is 4 64ths of a pixel, with 16 a quarter of a pixel. */
    static GlyphLines font(byte[]... glyphs) {
        return FontFile.of(glyphs).font();
    }

    static GlyphLines contours(int[]... contours) {
        return font(FontFile.simple(contours));
    }

    /** EM 256: with ppem 4 a unit is a 64th of a pixel. */
    static GlyphLines units(int[]... contours) {
        return FontFile.of(FontFile.simple(contours)).table("head", FontFile.head(256, 1)).font();
    }

    /** The text is wiped first. */
    static int paint(GlyphLines lines, int ppem, int... text) {
        lines.wipe();
        for (int c : text) {
            Check.due("type(" + c + ")", lines.type(c), true);
        }
        return lines.paint(ppem);
    }

    /** Each row is its number, its pixels; all others are empty. */
    static void picture(String what, GlyphLines lines, long... rows) {
        for (int r = 0; r < 24; r++) {
            long due = 0;
            for (int i = 0; i < rows.length; i += 2) {
                due = rows[i] == r ? rows[i + 1] : due;
            }
            Check.due(what + ": row(" + r + ")", lines.row(r), due);
        }
    }

    /** Glyph 0 of a font is painted as Plain paints it, and with all these ppem. */
    static void asPlain(String what, FontFile file, int... ppems) {
        GlyphLines lines = file.font();
        Plain plain = new Plain();
        for (int word : FontFile.words(file.done())) {
            plain.feed(word);
        }
        Check.due(what + ": load", plain.load(true) > 0, true);
        plain.type(0);
        for (int ppem : ppems) {
            Check.due(what + ": paint", paint(lines, ppem, 0), plain.paint(ppem));
            for (int r = 0; r < 24; r++) {
                Check.due(what + ": row(" + r + ")", lines.row(r), plain.row(r));
            }
        }
    }

    static boolean areAlike(GlyphLines one, GlyphLines other) {
        boolean alike = true;
        for (int r = 0; r < 24; r++) {
            alike &= one.row(r) == other.row(r);
        }
        return alike;
    }
}
