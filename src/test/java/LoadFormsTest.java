import java.util.Arrays;

/** Promise 6: what load says of FORMS. */
public final class LoadFormsTest {
    private LoadFormsTest() {
    }

    public static void main(String[] args) {
        head();
        maxp();
        hhea();
        hmtx();
        loca();
        cmapParts();
        cmapRanges();
        kern();
        Check.end();
    }

    /** Two glyphs, the second without bytes. */
    private static FontFile small() {
        return FontFile.of(FontFile.simple(FontFile.box(0, 0, 10, 20)), new byte[0]);
    }

    private static void right(String what, FontFile font) {
        Check.due(what, font.loaded(), 2);
    }

    private static void wrong(String what, FontFile font) {
        Check.due(what, font.loaded(), GlyphLines.FORMS);
    }

    private static void head() {
        right("em 64", small().put16("head", 18, 64));
        wrong("em 63", small().put16("head", 18, 63));
        right("em 2048", small().put16("head", 18, 2048));
        wrong("em 2049", small().put16("head", 18, 2049));
        wrong("em 32768 + 64", small().put16("head", 18, 32768 + 64));
        wrong("form 2", small().put16("head", 50, 2));
        wrong("form 65535", small().put16("head", 50, 65535));
        right("head of 54", small().shortened("head", 54));
        wrong("head of 53", small().shortened("head", 53));
        right("head of 60", small().shortened("head", 60));
    }

    private static void maxp() {
        wrong("no glyphs", small().put16("maxp", 4, 0));
        wrong("maxp of 5", small().shortened("maxp", 5));
        right("maxp of 32", small().shortened("maxp", 32));
        byte[][] most = new byte[16][0];
        Check.due("16 glyphs", FontFile.of(most).loaded(), 16);
        wrong("17 glyphs", FontFile.of(new byte[17][0]));
        Check.due("1 glyph", FontFile.of(new byte[1][0]).loaded(), 1);
    }

    private static void hhea() {
        wrong("no widths", small().put16("hhea", 34, 0));
        right("1 width", small().put16("hhea", 34, 1));
        wrong("3 widths for 2 glyphs", small().put16("hhea", 34, 3).shortened("hmtx", 12));
        wrong("hhea of 35", small().shortened("hhea", 35));
        right("hhea of 37", small().shortened("hhea", 37));
    }

    private static void hmtx() {
        right("hmtx of 8", small().shortened("hmtx", 8));
        wrong("hmtx of 7", small().shortened("hmtx", 7));
        right("hmtx of 4 for 1 width", small().put16("hhea", 34, 1).shortened("hmtx", 4));
        wrong("hmtx of 3 for 1 width", small().put16("hhea", 34, 1).shortened("hmtx", 3));
    }

    private static void loca() {
        int size = small().table("glyf").length;
        right("loca longer than need be", small().longer("loca", new byte[3]));
        wrong("loca a byte too short", small().shortened("loca", 11));
        wrong("loca falls", small().table("loca", new Bytes().u32(size, size - 1, size).done()));
        wrong("loca falls at the end", small().table("loca", new Bytes().u32(0, size, 0).done()));
        wrong("loca beyond glyf", small().table("loca", new Bytes().u32(0, size, size + 1).done()));
        wrong("loca has no sign", small().table("loca", new Bytes().u32(0, size, 0xFFFFFFFFL).done()));
        wrong("loca has no sign", small().table("loca", new Bytes().u32(0x80000000L, 0, size).done()));
        right("all behind the first", small().table("loca", new Bytes().u32(size, size, size).done()));
        right("the last below the end", small().table("loca", new Bytes().u32(0, 0, 0).done()));
        FontFile halves = small().put16("head", 50, 0).longer("glyf", new byte[size % 2]);
        int half = (size + 1) / 2;
        right("U16s doubled", halves.table("loca", new Bytes().u16(0, half, half).done()));
        wrong("U16s beyond glyf", halves.table("loca", new Bytes().u16(0, half, half + 1).done()));
        wrong("U16s fall", halves.table("loca", new Bytes().u16(half, 0, half).done()));
        wrong("U16s, a byte too short", halves.table("loca", new Bytes().u16(0, half, half).done())
                .shortened("loca", 5));
        wrong("U16s have no sign", halves.table("loca", new Bytes().u16(0x8000, half, half).done()));
    }

    private static void cmapParts() {
        byte[] map = FontFile.cmap(FontFile.range(0, 65535, 0, 0));
        byte[] body = Arrays.copyOfRange(map, 12, map.length);
        wrong("no part", small().put16("cmap", 2, 0));
        wrong("part 3, 0", small().put16("cmap", 6, 0));
        wrong("part 0, 1", small().put16("cmap", 4, 0));
        wrong("part 1, 3", small().put16("cmap", 4, 1).put16("cmap", 6, 3));
        right("the second part", small().table("cmap",
                new Bytes().u16(0, 2, 0, 3).u32(0).u16(3, 1).u32(20).all(body).done()));
        wrong("the second part, but one is said to be there", small().table("cmap",
                new Bytes().u16(0, 1, 0, 3).u32(0).u16(3, 1).u32(20).all(body).done()));
        Bytes many = new Bytes().u16(0, 10);
        for (int p = 0; p < 9; p++) {
            many.u16(3, p == 1 ? 0 : p).u32(0);
        }
        right("the tenth part", small().table("cmap", many.u16(3, 1).u32(84).all(body).done()));
        right("the first of two", small().table("cmap",
                new Bytes().u16(0, 2, 3, 1).u32(20).u16(3, 1).u32(9999).all(body).done()));
        wrong("the first of two, wrong", small().table("cmap",
                new Bytes().u16(0, 2, 3, 1).u32(9999).u16(3, 1).u32(20).all(body).done()));
        right("an odd place", small().table("cmap",
                new Bytes().u16(0, 1, 3, 1).u32(13).u8(9).all(body).done()));
        right("more parts said than there are, behind the one", small().put16("cmap", 2, 65535));
        wrong("parts beyond the table", small().table("cmap", new Bytes().u16(0, 9, 0, 3).u32(0).done()));
        wrong("a part that is cut off", small().table("cmap", new Bytes().u16(0, 1, 3, 1, 0).done()));
        wrong("a great place", small().put16("cmap", 8, 65535));
        wrong("cmap without bytes", small().table("cmap", new byte[0]));
        wrong("cmap of 3", small().table("cmap", new byte[] {0, 0, 1}));
        wrong("a byte too short", small().shortened("cmap", map.length - 1));
        wrong("place at the end", small().put16("cmap", 10, map.length));
    }

    private static void cmapRanges() {
        wrong("format 0", small().put16("cmap", 12, 0));
        wrong("format 6", small().put16("cmap", 12, 6));
        wrong("S 0", small().put16("cmap", 18, 0));
        wrong("2 S odd", small().put16("cmap", 18, 3));
        wrong("2 S odd, 1", small().put16("cmap", 18, 1));
        wrong("2 S great", small().put16("cmap", 18, 65534));
        wrong("the last LAST is 65534", small().table("cmap", FontFile.cmap(FontFile.range(0, 65534, 0, 0))));
        wrong("LAST stays", small().table("cmap", FontFile.cmap(
                FontFile.range(0, 65535, 0, 0), FontFile.range(0, 65535, 0, 0))));
        wrong("LAST falls", small().table("cmap", FontFile.cmap(
                FontFile.range(0, 9, 0, 0), FontFile.range(0, 8, 0, 0), FontFile.range(0, 65535, 0, 0))));
        wrong("65535 is not the last", small().table("cmap", FontFile.cmap(
                FontFile.range(0, 65535, 0, 0), FontFile.range(0, 7, 0, 0))));
        right("FIRST is LAST", small().table("cmap", FontFile.cmap(
                FontFile.range(7, 7, 0, 0), FontFile.range(65535, 65535, 0, 0))));
        wrong("FIRST above LAST", small().table("cmap", FontFile.cmap(
                FontFile.range(8, 7, 0, 0), FontFile.range(65535, 65535, 0, 0))));
        right("FIRST does not rise", small().table("cmap", FontFile.cmap(
                FontFile.range(5, 7, 0, 0), FontFile.range(0, 65535, 0, 0))));
        right("a LAST of 0", small().table("cmap", FontFile.cmap(
                FontFile.range(0, 0, 0, 0), FontFile.range(0, 65535, 0, 0))));
        FontFile two = small().table("cmap", FontFile.cmap(
                FontFile.range(0, 9, 0, 0), FontFile.range(0, 65535, 0, 0)));
        wrong("WAY cut off", two.shortened("cmap", two.table("cmap").length - 1));
    }

    private static void kern() {
        int[] pair = {0, 1, -5};
        right("one pair", small().table("kern", FontFile.kern(pair)));
        right("no pair", small().table("kern", FontFile.kern()));
        right("no pair, and nothing is read behind 12", small().table("kern", FontFile.kern()).shortened("kern", 12));
        wrong("P cut off", small().table("kern", FontFile.kern()).shortened("kern", 11));
        wrong("kern without bytes", small().table("kern", new byte[0]));
        right("U16 at 2 is 2", small().table("kern", FontFile.kern(pair)).put16("kern", 2, 2));
        right("U16 at 2 is 65535", small().table("kern", FontFile.kern(pair)).put16("kern", 2, 65535));
        wrong("U16 at 2 is 0", small().table("kern", FontFile.kern(pair)).put16("kern", 2, 0));
        right("U16 at 2 is 256", small().table("kern", FontFile.kern(pair)).put16("kern", 2, 256));
        wrong("U16 at 2 is 0, others not", small().table("kern", FontFile.kern(pair)).put16("kern", 2, 0)
                .put16("kern", 0, 257).put16("kern", 4, 257));
        wrong("U16 at 8 is 0", small().table("kern", FontFile.kern(pair)).put16("kern", 8, 0));
        wrong("U16 at 8 is 257", small().table("kern", FontFile.kern(pair)).put16("kern", 8, 257));
        wrong("one pair too many", small().table("kern", FontFile.kern(pair)).put16("kern", 10, 2));
        wrong("65535 pairs", small().table("kern", FontFile.kern(pair)).put16("kern", 10, 65535));
        wrong("a pair cut off", small().table("kern", FontFile.kern(pair)).shortened("kern", 23));
        right("longer than need be", small().table("kern", FontFile.kern(pair)).longer("kern", new byte[1]));
        right("pairs of glyphs that are not there", small().table("kern", FontFile.kern(new int[] {99, 98, 1})));
    }
}
