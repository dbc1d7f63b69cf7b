/** Promises 11 and 12: type and wipe. */
public final class TextTest {
    private TextTest() {
    }

    public static void main(String[] args) {
        withoutAFont();
        limits();
        textStays();
        Check.end();
    }

    private static void withoutAFont() {
        GlyphLines lines = new GlyphLines();
        Check.due("wipe() of no text", lines.wipe(), 0);
        Check.due("type(0)", lines.type(0), true);
        Check.due("type(65535)", lines.type(65535), true);
        Check.due("type(-1)", lines.type(-1), false);
        Check.due("type(65536)", lines.type(65536), false);
        Check.due("type(the least)", lines.type(Integer.MIN_VALUE), false);
        Check.due("wipe()", lines.wipe(), 2);
        Check.due("wipe() again", lines.wipe(), 0);
    }

    private static void limits() {
        GlyphLines lines = FontFile.of(new byte[3][0]).font();
        for (int i = 0; i < 12; i++) {
            Check.due("type, the " + i + "th", lines.type(1), true);
        }
        Check.due("type, the 13th", lines.type(2), false);
        Check.due("type, the 13th, wrong", lines.type(-1), false);
        // EM 64, ppem 4: 4 64ths of a pixel for each unit, and glyph 1 has 11 of them.
        Check.due("the 13th is not in the text", lines.paint(4), 12 * 44);
        Check.due("wipe()", lines.wipe(), 12);
        Check.due("type", lines.type(2), true);
        Check.due("only the new text", lines.paint(4), 48);
        Check.due("wipe()", lines.wipe(), 1);
    }

    private static void textStays() {
        GlyphLines lines = new GlyphLines();
        lines.type(1);
        lines.type(2);
        FontFile font = FontFile.of(new byte[3][0]);
        font.into(lines);
        lines.load(true);
        Check.due("typed before the font came", lines.paint(4), 44 + 48);
        Check.due("painted again", lines.paint(8), 88 + 96);
        font.table("cmap", FontFile.cmap(FontFile.range(0, 65535, -1, 0))).into(lines);
        lines.load(true);
        Check.due("of another font", lines.paint(4), 40 + 44);
        Check.argument("paint(3)", () -> lines.paint(3));
        Check.due("wipe()", lines.wipe(), 2);
    }
}
