/** Promise 10, and of the terms: the KERNING of two glyphs. */
public final class KerningTest {
    private KerningTest() {
    }

    public static void main(String[] args) {
        withoutAFont();
        glyphsThatAreThere();
        pairs();
        firstSuchPair();
        numbersHaveASign();
        withoutPairs();
        behindThePairs();
        manyPairs();
        anotherFont();
        Check.end();
    }

    private static GlyphLines with(int glyphs, int[]... pairs) {
        return FontFile.of(new byte[glyphs][0]).table("kern", FontFile.kern(pairs)).font();
    }

    private static void withoutAFont() {
        GlyphLines none = new GlyphLines();
        Check.state("kerning(0, 0)", () -> none.kerning(0, 0));
        Check.state("kerning(-1, -1): the first exception wins", () -> none.kerning(-1, -1));
        Check.state("kerning(0, 16): the first exception wins", () -> none.kerning(0, 16));
    }

    private static void glyphsThatAreThere() {
        // There are pairs of glyphs that are not there: they are not asked for.
        GlyphLines lines = with(2, new int[] {1, 2, 9}, new int[] {2, 1, 9}, new int[] {65535, 0, 9},
                new int[] {0, 65535, 9}, new int[] {0, 1, 5}, new int[] {1, 0, 6});
        for (int g : new int[] {-1, 2, 3, Integer.MIN_VALUE, Integer.MAX_VALUE}) {
            Check.index("kerning(" + g + ", 0)", () -> lines.kerning(g, 0));
            Check.index("kerning(" + g + ", 1)", () -> lines.kerning(g, 1));
            Check.index("kerning(0, " + g + ")", () -> lines.kerning(0, g));
            Check.index("kerning(1, " + g + ")", () -> lines.kerning(1, g));
            Check.index("kerning(" + g + ", " + g + ")", () -> lines.kerning(g, g));
        }
        Check.due("kerning(0, 1)", lines.kerning(0, 1), 5);
        Check.due("kerning(1, 0)", lines.kerning(1, 0), 6);
        GlyphLines most = with(16, new int[] {15, 0, 3}, new int[] {0, 15, 4}, new int[] {15, 16, 9});
        Check.due("kerning(15, 0)", most.kerning(15, 0), 3);
        Check.due("kerning(0, 15)", most.kerning(0, 15), 4);
        Check.index("kerning(15, 16)", () -> most.kerning(15, 16));
        Check.index("kerning(16, 0)", () -> most.kerning(16, 0));
    }

    private static void pairs() {
        GlyphLines lines = with(3, new int[] {2, 1, -1}, new int[] {1, 2, 30}, new int[] {0, 0, -40},
                new int[] {2, 2, 7});
        int[][] due = {{-40, 0, 0}, {0, 0, 30}, {0, -1, 7}};
        for (int left = 0; left < 3; left++) {
            for (int right = 0; right < 3; right++) {
                String call = "kerning(" + left + ", " + right + ")";
                Check.due(call, lines.kerning(left, right), due[left][right]);
            }
        }
    }

    private static void firstSuchPair() {
        GlyphLines lines = with(2, new int[] {1, 1, 4}, new int[] {0, 1, 5}, new int[] {0, 1, 6},
                new int[] {1, 0, 0}, new int[] {1, 0, 7});
        Check.due("5 before 6", lines.kerning(0, 1), 5);
        Check.due("0 before 7", lines.kerning(1, 0), 0);
    }

    private static void numbersHaveASign() {
        GlyphLines lines = with(3, new int[] {0, 0, 32767}, new int[] {0, 1, -32768}, new int[] {0, 2, -1},
                new int[] {1, 256, 9}, new int[] {257, 1, 9});
        Check.due("32767", lines.kerning(0, 0), 32767);
        Check.due("-32768", lines.kerning(0, 1), -32768);
        Check.due("-1", lines.kerning(0, 2), -1);
        Check.due("256 is not 0", lines.kerning(1, 0), 0);
        Check.due("257 is not 1", lines.kerning(1, 1), 0);
    }

    private static void withoutPairs() {
        Check.due("no kern", FontFile.of(new byte[2][0]).font().kerning(0, 1), 0);
        Check.due("no pairs", with(2).kerning(0, 0), 0);
        FontFile shortest = FontFile.of(new byte[2][0]).table("kern", FontFile.kern()).shortened("kern", 12);
        Check.due("no pairs, 12 bytes", shortest.font().kerning(0, 0), 0);
    }

    private static void behindThePairs() {
        GlyphLines lines = FontFile.of(new byte[2][0]).table("kern",
                new Bytes().all(FontFile.kern()).u16(0, 1, 9).done()).font();
        Check.due("behind no pairs", lines.kerning(0, 1), 0);
        GlyphLines one = FontFile.of(new byte[2][0])
                .table("kern", FontFile.kern(new int[] {0, 1, 3}, new int[] {1, 0, 4}))
                .put16("kern", 10, 1).font();
        Check.due("the one pair", one.kerning(0, 1), 3);
        Check.due("behind the one pair", one.kerning(1, 0), 0);
    }

    private static void manyPairs() {
        // As many as a file has room for, but one: only the last one counts.
        int[][] pairs = new int[130][];
        for (int i = 0; i < pairs.length; i++) {
            pairs[i] = new int[] {0, i + 1, i};
        }
        pairs[129] = new int[] {0, 0, 77};
        Check.due("the last of many", with(1, pairs).kerning(0, 0), 77);
    }

    private static void anotherFont() {
        FontFile with = FontFile.of(new byte[2][0]).table("kern", FontFile.kern(new int[] {0, 1, 3}));
        FontFile without = FontFile.of(new byte[2][0]);
        GlyphLines lines = with.font();
        Check.due("with kern", lines.kerning(0, 1), 3);
        lines.load(true);
        Check.due("with kern again", lines.kerning(0, 1), 3);
        without.into(lines);
        lines.load(true);
        Check.due("without kern", lines.kerning(0, 1), 0);
        lines.load(true);
        Check.due("without kern again", lines.kerning(0, 1), 0);
        with.into(lines);
        lines.load(true);
        Check.due("with kern", lines.kerning(0, 1), 3);
    }
}
