/** Promise 10: kerning. */
public final class KerningTest {
    private KerningTest() {
    }

    public static void main(String[] args) {
        wrongCalls();
        pairs();
        withoutPairs();
        anotherFont();
        Check.end();
    }

    private static void wrongCalls() {
        GlyphLines none = new GlyphLines();
        Check.state("kerning without a font", () -> none.kerning(0, 0));
        Check.state("kerning without a font, and wrong", () -> none.kerning(-1, -1));
        GlyphLines lines = FontFile.of(new byte[2][0])
                .table("kern", FontFile.kern(new int[] {1, 2, 9}, new int[] {65535, 0, 9})).font();
        Check.index("kerning(-1, 0)", () -> lines.kerning(-1, 0));
        Check.index("kerning(2, 0)", () -> lines.kerning(2, 0));
        Check.index("kerning(0, -1)", () -> lines.kerning(0, -1));
        Check.index("kerning(1, 2)", () -> lines.kerning(1, 2));
        Check.due("kerning(1, 1)", lines.kerning(1, 1), 0);
    }

    private static void pairs() {
        // In no order, and one pair twice: the first one counts.
        GlyphLines lines = FontFile.of(new byte[3][0]).table("kern", FontFile.kern(
                new int[] {2, 1, -1}, new int[] {1, 2, 32767}, new int[] {0, 0, -32768},
                new int[] {1, 2, 5}, new int[] {2, 2, 0}, new int[] {2, 2, 7})).font();
        int[][] due = {{-32768, 0, 0}, {0, 0, 32767}, {0, -1, 0}};
        for (int left = 0; left < 3; left++) {
            for (int right = 0; right < 3; right++) {
                String call = "kerning(" + left + ", " + right + ")";
                Check.due(call, lines.kerning(left, right), due[left][right]);
            }
        }
    }

    private static void withoutPairs() {
        Check.due("no kern", FontFile.of(new byte[2][0]).font().kerning(0, 1), 0);
        GlyphLines lines = FontFile.of(new byte[2][0]).table("kern",
                new Bytes().all(FontFile.kern()).u16(0, 1, 9).done()).font();
        Check.due("no pairs", lines.kerning(0, 1), 0);
        GlyphLines one = FontFile.of(new byte[2][0])
                .table("kern", FontFile.kern(new int[] {0, 1, 3}, new int[] {1, 0, 4}))
                .put16("kern", 10, 1).font();
        Check.due("the one pair", one.kerning(0, 1), 3);
        Check.due("behind the pairs", one.kerning(1, 0), 0);
    }

    private static void anotherFont() {
        FontFile with = FontFile.of(new byte[2][0]).table("kern", FontFile.kern(new int[] {0, 1, 3}));
        FontFile without = FontFile.of(new byte[2][0]);
        GlyphLines lines = with.font();
        Check.due("with kern", lines.kerning(0, 1), 3);
        lines.load(true);
        Check.due("with kern again", lines.kerning(0, 1), 3);
        without.into(lines);
        lines.load(true);
        Check.due("without kern", lines.kerning(0, 1), 0);
        lines.load(true);
        Check.due("without kern again", lines.kerning(0, 1), 0);
        with.into(lines);
        lines.load(true);
        Check.due("with kern", lines.kerning(0, 1), 3);
    }
}
