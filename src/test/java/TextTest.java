/** Promises 11 and 12: type and wipe. */
public final class TextTest {
    private TextTest() {
    }

    public static void main(String[] args) {
        charactersOnBothSides();
        atMostTwelve();
        refusedCharactersAreNotInTheText();
        twelfthAndThirteenth();
        wipeAnswersHowMany();
        wipedTextIsGone();
        textStays();
        Check.end();
    }

    private static void charactersOnBothSides() {
        GlyphLines lines = new GlyphLines();
        Check.due("type(-1)", lines.type(-1), false);
        Check.due("type(0)", lines.type(0), true);
        Check.due("type(65535)", lines.type(65535), true);
        Check.due("type(65536)", lines.type(65536), false);
        Check.due("type(the least)", lines.type(Integer.MIN_VALUE), false);
        Check.due("type(the greatest)", lines.type(Integer.MAX_VALUE), false);
        Check.due("wipe()", lines.wipe(), 2);
    }

    private static GlyphLines font() {
        // EM 64, ppem 4: 4 64ths of a pixel for each unit; glyph g is 10 + g of them wide.
        return FontFile.of(new byte[3][0]).font();
    }

    private static void typeMany(GlyphLines lines, int many) {
        for (int i = 0; i < many; i++) {
            Check.due("type, the " + i + "th", lines.type(1), true);
        }
    }

    private static void atMostTwelve() {
        GlyphLines lines = new GlyphLines();
        typeMany(lines, 12);
        for (int c : new int[] {0, 1, 65535, -1, 65536}) {
            Check.due("the 13th, " + c, lines.type(c), false);
        }
        Check.due("wipe()", lines.wipe(), 12);
        typeMany(lines, 12);
        Check.due("the 13th again", lines.type(1), false);
        Check.due("wipe()", lines.wipe(), 12);
    }

    private static void refusedCharactersAreNotInTheText() {
        GlyphLines lines = font();
        lines.type(1);
        lines.type(-1);
        lines.type(65536 + 2);
        lines.type(2);
        Check.due("1 and 2", lines.paint(4), 44 + 48);
        Check.due("wipe()", lines.wipe(), 2);
    }

    private static void twelfthAndThirteenth() {
        GlyphLines lines = font();
        typeMany(lines, 11);
        Check.due("the 12th", lines.type(2), true);
        Check.due("the 13th", lines.type(0), false);
        Check.due("the 12th is in the text, the 13th is not", lines.paint(4), 11 * 44 + 48);
        Check.due("wipe()", lines.wipe(), 12);
    }

    private static void wipeAnswersHowMany() {
        GlyphLines lines = new GlyphLines();
        Check.due("wipe() of no text", lines.wipe(), 0);
        for (int many = 1; many <= 12; many++) {
            typeMany(lines, many);
            Check.due("wipe() of " + many, lines.wipe(), many);
            Check.due("wipe() again", lines.wipe(), 0);
        }
    }

    private static void wipedTextIsGone() {
        GlyphLines lines = font();
        lines.type(1);
        lines.type(1);
        lines.wipe();
        Check.due("no text", lines.paint(4), 0);
        lines.type(2);
        Check.due("only the new text", lines.paint(4), 48);
    }

    private static void textStays() {
        GlyphLines lines = new GlyphLines();
        lines.type(1);
        lines.type(2);
        FontFile font = FontFile.of(new byte[3][0]);
        font.into(lines);
        lines.load(true);
        Check.due("typed before the font came", lines.paint(4), 44 + 48);
        Check.due("painted again", lines.paint(8), 88 + 96);
        font.table("cmap", FontFile.cmap(FontFile.range(0, 65535, -1, 0))).into(lines);
        lines.load(true);
        Check.due("of another font", lines.paint(4), 40 + 44);
        Check.argument("paint(3)", () -> lines.paint(3));
        Check.due("wipe()", lines.wipe(), 2);
    }
}
