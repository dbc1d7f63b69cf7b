import java.util.Arrays;

/** Promise 6, and of the terms: FORMS, on both sides of each bound. */
public final class LoadFormsTest {
    private static final long GREATEST = 0xFFFFFFFFL;

    private LoadFormsTest() {
    }

    public static void main(String[] args) {
        headHasAtLeast54();
        em();
        formOfPlaces();
        maxpHasAtLeast6();
        numberOfGlyphs();
        hheaHasAtLeast36();
        numberOfWidths();
        hmtxHasAtLeastFourPerWidth();
        locaLiesInItsTable();
        locaDoesNotFall();
        locaEndsInGlyf();
        locaOfU16s();
        cmapHasAPart31();
        cmapPartsLieInIt();
        cmapPlaceLiesInIt();
        cmapFormatIs4();
        cmapHasARange();
        cmapRangesLieInIt();
        cmapLastRises();
        cmapLastEndsWith65535();
        cmapFirstIsNotAboveLast();
        kernNumbers();
        kernPairsLieInIt();
        Check.end();
    }

    /** Two glyphs, the second without bytes. */
    private static FontFile small() {
        return FontFile.of(FontFile.simple(FontFile.box(0, 0, 10, 20)), new byte[0]);
    }

    private static void right(String what, FontFile font) {
        Check.due(what, font.loaded(), 2);
    }

    private static void wrong(String what, FontFile font) {
        Check.due(what, font.loaded(), GlyphLines.FORMS);
    }

    private static void headHasAtLeast54() {
        wrong("head without bytes", small().shortened("head", 0));
        wrong("head of 20", small().shortened("head", 20));
        wrong("head of 52", small().shortened("head", 52));
        wrong("head of 53", small().shortened("head", 53));
        right("head of 54", small().shortened("head", 54));
        right("head of 55", small().shortened("head", 55));
    }

    private static void em() {
        wrong("em 0", small().put16("head", 18, 0));
        wrong("em 63", small().put16("head", 18, 63));
        right("em 64", small().put16("head", 18, 64));
        right("em 65", small().put16("head", 18, 65));
        right("em 2047", small().put16("head", 18, 2047));
        right("em 2048", small().put16("head", 18, 2048));
        wrong("em 2049", small().put16("head", 18, 2049));
        wrong("em 32768 + 64", small().put16("head", 18, 32768 + 64));
        wrong("em 65535", small().put16("head", 18, 65535));
    }

    private static void formOfPlaces() {
        FontFile halves = FontFile.of(new byte[2][0]).put16("head", 50, 0);
        right("form 0", halves);
        right("form 1", FontFile.of(new byte[2][0]).put16("head", 50, 1));
        wrong("form 2", FontFile.of(new byte[2][0]).put16("head", 50, 2));
        wrong("form 256", FontFile.of(new byte[2][0]).put16("head", 50, 256));
        wrong("form 65535", FontFile.of(new byte[2][0]).put16("head", 50, 65535));
    }

    private static void maxpHasAtLeast6() {
        wrong("maxp without bytes", small().shortened("maxp", 0));
        wrong("maxp of 5", small().shortened("maxp", 5));
        right("maxp of 6", small().shortened("maxp", 6));
        right("maxp of 32", small().shortened("maxp", 32));
    }

    private static void numberOfGlyphs() {
        wrong("no glyphs", small().put16("maxp", 4, 0));
        Check.due("1 glyph", FontFile.of(new byte[1][0]).loaded(), 1);
        Check.due("16 glyphs", FontFile.of(new byte[16][0]).loaded(), 16);
        wrong("17 glyphs", FontFile.of(new byte[17][0]));
        wrong("256 glyphs", FontFile.of(new byte[16][0]).put16("maxp", 4, 256));
        wrong("32768 + 1 glyphs", FontFile.of(new byte[16][0]).put16("maxp", 4, 32769));
        wrong("65535 glyphs", FontFile.of(new byte[16][0]).put16("maxp", 4, 65535));
        Check.due("fewer glyphs than loca and hmtx have", small().put16("maxp", 4, 1).put16("hhea", 34, 1)
                .loaded(), 1);
    }

    private static void hheaHasAtLeast36() {
        wrong("hhea without bytes", small().shortened("hhea", 0));
        wrong("hhea of 35", small().shortened("hhea", 35));
        right("hhea of 36", small().shortened("hhea", 36));
        right("hhea of 37", small().shortened("hhea", 37));
    }

    private static void numberOfWidths() {
        wrong("no widths", small().put16("hhea", 34, 0));
        right("1 width", small().put16("hhea", 34, 1));
        right("2 widths for 2 glyphs", small().put16("hhea", 34, 2));
        wrong("3 widths for 2 glyphs", small().put16("hhea", 34, 3).shortened("hmtx", 12));
        FontFile most = FontFile.of(new byte[16][0]);
        Check.due("16 widths for 16 glyphs", most.loaded(), 16);
        wrong("17 widths for 16 glyphs", most.put16("hhea", 34, 17).shortened("hmtx", 68));
        wrong("65535 widths", small().put16("hhea", 34, 65535));
    }

    private static void hmtxHasAtLeastFourPerWidth() {
        wrong("hmtx without bytes", small().shortened("hmtx", 0));
        wrong("hmtx of 6 for 2 widths", small().shortened("hmtx", 6));
        wrong("hmtx of 7 for 2 widths", small().shortened("hmtx", 7));
        right("hmtx of 8 for 2 widths", small().shortened("hmtx", 8));
        right("hmtx of 9 for 2 widths", small().shortened("hmtx", 9));
        wrong("hmtx of 3 for 1 width", small().put16("hhea", 34, 1).shortened("hmtx", 3));
        right("hmtx of 4 for 1 width", small().put16("hhea", 34, 1).shortened("hmtx", 4));
        FontFile most = FontFile.of(new byte[16][0]);
        Check.due("hmtx of 64 for 16 widths", most.loaded(), 16);
        wrong("hmtx of 63 for 16 widths", most.shortened("hmtx", 63));
    }

    private static FontFile loca(long... places) {
        return small().table("loca", new Bytes().u32(places).done());
    }

    private static void locaLiesInItsTable() {
        wrong("loca without bytes", small().shortened("loca", 0));
        wrong("loca of 8 for 2 glyphs", small().shortened("loca", 8));
        wrong("loca of 11 for 2 glyphs", small().shortened("loca", 11));
        right("loca of 12 for 2 glyphs", small().shortened("loca", 12));
        right("loca of 15 for 2 glyphs", small().longer("loca", new byte[3]));
        // All of it zeros: the missing byte itself is not seen by its value.
        FontFile zeros = FontFile.of(new byte[16][0]);
        Check.due("loca of 68 for 16 glyphs", zeros.loaded(), 16);
        wrong("loca of 67 for 16 glyphs", zeros.shortened("loca", 67));
    }

    private static void locaDoesNotFall() {
        int size = small().table("glyf").length;
        right("none falls", loca(0, size, size));
        wrong("the second is one below", loca(size, size - 1, size));
        right("the second is the same", loca(size, size, size));
        wrong("the third is one below", loca(0, size, size - 1));
        right("the third is the same", loca(0, size, size));
        right("all are 0", loca(0, 0, 0));
        wrong("no sign at first", loca(0x80000000L, 0, size));
        wrong("no sign later", loca(0, GREATEST, size));
    }

    private static void locaEndsInGlyf() {
        int size = small().table("glyf").length;
        right("the last is one below glyf's length", loca(0, 0, size - 1).put16("glyf", 0, 0));
        right("the last is glyf's length", loca(0, size, size));
        wrong("the last is one above glyf's length", loca(0, size, size + 1));
        wrong("the last two are above glyf's length", loca(0, size + 1, size + 1));
        wrong("the last is 2^31", loca(0, size, 0x80000000L));
        wrong("the last is the greatest", loca(0, size, GREATEST));
        right("no bytes of glyf at all", FontFile.of(new byte[2][0]));
        wrong("one byte where there is none", FontFile.of(new byte[2][0]).put16("loca", 10, 1));
    }

    private static FontFile halves(int glyf, int... places) {
        FontFile font = FontFile.of(new byte[2][0]).put16("head", 50, 0).table("glyf", new byte[glyf]);
        return font.table("loca", new Bytes().u16(places).done());
    }

    private static void locaOfU16s() {
        right("doubled up to glyf's length", halves(12, 0, 6, 6));
        wrong("doubled beyond glyf's length", halves(12, 0, 6, 7));
        right("doubled up to a byte before an odd length", halves(13, 0, 6, 6));
        wrong("doubled beyond an odd length", halves(13, 0, 6, 7));
        right("none falls", halves(12, 6, 6, 6));
        wrong("one falls", halves(12, 6, 5, 6));
        wrong("the last falls", halves(12, 0, 6, 5));
        wrong("2 * 32768 is not 0", halves(12, 0, 6, 32768));
        wrong("2 * 32768 at first", halves(12, 32768, 6, 6));
        right("6 bytes for 2 glyphs", halves(12, 0, 0, 0));
        wrong("5 bytes for 2 glyphs", halves(12, 0, 0, 0).shortened("loca", 5));
        wrong("4 bytes for 2 glyphs", halves(12, 0, 0, 0).shortened("loca", 4));
        FontFile most = FontFile.of(new byte[16][0]).put16("head", 50, 0);
        Check.due("34 bytes for 16 glyphs", most.shortened("loca", 34).loaded(), 16);
        wrong("33 bytes for 16 glyphs", most.shortened("loca", 33));
    }

    private static byte[] mapOfAll() {
        byte[] map = FontFile.cmap(FontFile.range(0, 65535, 0, 0));
        return Arrays.copyOfRange(map, 12, map.length);
    }

    private static FontFile cmap(Bytes bytes) {
        return small().table("cmap", bytes.done());
    }

    private static FontFile ranges(int[]... ranges) {
        return small().table("cmap", FontFile.cmap(ranges));
    }

    private static void cmapHasAPart31() {
        byte[] map = mapOfAll();
        wrong("no part", small().put16("cmap", 2, 0));
        right("one part", small().put16("cmap", 2, 1));
        for (int[] pair : new int[][] {{3, 0}, {3, 2}, {2, 1}, {4, 1}, {0, 1}, {1, 3}, {259, 1}, {3, 257}}) {
            wrong("a part " + pair[0] + ", " + pair[1],
                    small().put16("cmap", 4, pair[0]).put16("cmap", 6, pair[1]));
        }
        right("the second part",
                cmap(new Bytes().u16(0, 2, 0, 3).u32(0).u16(3, 1).u32(20).all(map)));
        wrong("the second part of one",
                cmap(new Bytes().u16(0, 1, 0, 3).u32(0).u16(3, 1).u32(20).all(map)));
        Bytes many = new Bytes().u16(0, 10);
        for (int p = 0; p < 9; p++) {
            many.u16(3, p == 1 ? 0 : p).u32(0);
        }
        right("the tenth part", cmap(many.u16(3, 1).u32(84).all(map)));
        right("the first of two", cmap(new Bytes().u16(0, 2, 3, 1).u32(20).u16(3, 1).u32(9999).all(map)));
        wrong("the first of two, wrong", cmap(new Bytes().u16(0, 2, 3, 1).u32(9999).u16(3, 1).u32(20).all(map)));
    }

    private static void cmapPartsLieInIt() {
        wrong("cmap without bytes", small().table("cmap", new byte[0]));
        wrong("cmap of 3", cmap(new Bytes().u8(0, 0, 1)));
        wrong("cmap of 4", cmap(new Bytes().u16(0, 1)));
        wrong("a part that is cut off", cmap(new Bytes().u16(0, 1, 3, 1, 0).u8(0)));
        wrong("parts beyond the table", cmap(new Bytes().u16(0, 9, 0, 3).u32(0)));
        wrong("65535 parts beyond the table", cmap(new Bytes().u16(0, 65535, 0, 3).u32(0)));
        // Nothing is read behind the first part with 3, 1.
        right("more parts said than there are, behind the one", small().put16("cmap", 2, 65535));
        // The map, as long as 3 parts, stands before the last part, whose end is that of the table.
        byte[] map = mapOfAll();
        Bytes before = new Bytes().u16(0, 5, 0, 3).u32(0).all(map);
        right("the last part ends with the table", cmap(before.u16(3, 1).u32(12)));
        FontFile cut = cmap(before);
        wrong("the last part is cut off", cut.shortened("cmap", cut.table("cmap").length - 1));
        // The map lies at 0, over the first parts; of the last part's place, 0, the last byte is missing or not.
        FontFile over = cmap(new Bytes().u16(4, 4, 0, 2, 0, 0, 0, 65535, 0, 0, 0, 0, 0, 0, 3, 1).u32(0));
        right("a place of 0", over);
        wrong("a place of 0, cut off", over.shortened("cmap", 35));
    }

    private static void cmapPlaceLiesInIt() {
        byte[] map = mapOfAll();
        int size = 12 + map.length;
        right("place 12", small());
        right("an odd place", cmap(new Bytes().u16(0, 1, 3, 1).u32(13).u8(9).all(map)));
        wrong("one place too early", small().put16("cmap", 10, 11));
        wrong("one place too far", small().put16("cmap", 10, 13));
        wrong("the last byte", small().put16("cmap", 10, size - 1));
        wrong("the end", small().put16("cmap", 10, size));
        wrong("behind the end", small().put16("cmap", 10, size + 1));
        wrong("2^16 too far", small().put16("cmap", 8, 1));
        wrong("2^31 too far", small().put16("cmap", 8, 0x8000));
        wrong("the greatest place", small().put16("cmap", 8, 65535).put16("cmap", 10, 65535));
        wrong("2^32 - 16 and 12", small().put16("cmap", 8, 65535).put16("cmap", 10, 65520));
    }

    private static void cmapFormatIs4() {
        for (int format : new int[] {0, 3, 5, 6, 1024, 260, 65535}) {
            wrong("format " + format, small().put16("cmap", 12, format));
        }
        right("format 4", small().put16("cmap", 12, 4));
        for (int place : new int[] {14, 16, 20, 22, 24, 28}) {
            right("the U16 at " + place + " is not looked at", small().put16("cmap", place, 0xA5A5));
        }
    }

    private static void cmapHasARange() {
        wrong("2 S is 0", small().put16("cmap", 18, 0));
        wrong("2 S is 1", small().put16("cmap", 18, 1));
        right("2 S is 2", small().put16("cmap", 18, 2));
        wrong("2 S is 3", small().put16("cmap", 18, 3));
        wrong("2 S is 3, and bytes enough", small().put16("cmap", 18, 3).longer("cmap", new byte[40]));
        wrong("2 S is 65534", small().put16("cmap", 18, 65534));
        wrong("2 S is 65535", small().put16("cmap", 18, 65535));
    }

    private static void cmapRangesLieInIt() {
        byte[] one = FontFile.cmap(FontFile.range(0, 65535, 0, 0));
        right("one range", small().table("cmap", one));
        for (int size = 12; size < one.length; size++) {
            wrong("one range, cut off at " + size, small().table("cmap", Arrays.copyOf(one, size)));
        }
        FontFile two = ranges(FontFile.range(0, 9, 0, 0), FontFile.range(0, 65535, 0, 0));
        right("two ranges", two);
        wrong("two ranges, WAY cut off", two.shortened("cmap", two.table("cmap").length - 1));
        right("bytes behind them", small().longer("cmap", new byte[5]));
    }

    private static void cmapLastRises() {
        int[] all = FontFile.range(0, 65535, 0, 0);
        right("by 1", ranges(FontFile.range(0, 8, 0, 0), FontFile.range(0, 9, 0, 0), all));
        wrong("by 0", ranges(FontFile.range(0, 9, 0, 0), FontFile.range(0, 9, 0, 0), all));
        wrong("by -1", ranges(FontFile.range(0, 9, 0, 0), FontFile.range(0, 8, 0, 0), all));
        right("up to 65534, then 65535", ranges(FontFile.range(0, 65534, 0, 0), all));
        wrong("65535 twice", ranges(all, all));
        right("from 0 on", ranges(FontFile.range(0, 0, 0, 0), all));
        right("beyond 32767", ranges(FontFile.range(0, 32767, 0, 0), FontFile.range(0, 32768, 0, 0), all));
        wrong("beyond 32767 and back", ranges(FontFile.range(0, 32768, 0, 0), FontFile.range(0, 32767, 0, 0), all));
    }

    private static void cmapLastEndsWith65535() {
        right("65535", ranges(FontFile.range(0, 65535, 0, 0)));
        wrong("65534", ranges(FontFile.range(0, 65534, 0, 0)));
        wrong("0", ranges(FontFile.range(0, 0, 0, 0)));
        wrong("65535 is not the last", ranges(FontFile.range(0, 65535, 0, 0), FontFile.range(0, 7, 0, 0)));
    }

    private static void cmapFirstIsNotAboveLast() {
        int[] end = FontFile.range(65535, 65535, 0, 0);
        right("FIRST is one below LAST", ranges(FontFile.range(6, 7, 0, 0), end));
        right("FIRST is LAST", ranges(FontFile.range(7, 7, 0, 0), end));
        wrong("FIRST is one above LAST", ranges(FontFile.range(8, 7, 0, 0), end));
        right("FIRST is LAST, in the last", ranges(end));
        wrong("FIRST is one above LAST, in the second",
                ranges(FontFile.range(0, 7, 0, 0), FontFile.range(21, 20, 0, 0), end));
        right("FIRST does not rise", ranges(FontFile.range(5, 7, 0, 0), FontFile.range(0, 65535, 0, 0)));
    }

    private static FontFile kern() {
        return small().table("kern", FontFile.kern(new int[] {0, 1, -5}));
    }

    private static void kernNumbers() {
        right("one pair", kern());
        wrong("U16 at 2 is 0", kern().put16("kern", 2, 0));
        wrong("U16 at 2 is 0, others not", kern().put16("kern", 2, 0).put16("kern", 0, 257).put16("kern", 4, 257));
        right("U16 at 2 is 1", kern().put16("kern", 2, 1));
        right("U16 at 2 is 2", kern().put16("kern", 2, 2));
        right("U16 at 2 is 256", kern().put16("kern", 2, 256));
        right("U16 at 2 is 65535", kern().put16("kern", 2, 65535));
        wrong("U16 at 8 is 0", kern().put16("kern", 8, 0));
        right("U16 at 8 is 1", kern().put16("kern", 8, 1));
        wrong("U16 at 8 is 2", kern().put16("kern", 8, 2));
        wrong("U16 at 8 is 257", kern().put16("kern", 8, 257));
        for (int place : new int[] {0, 4, 6, 12, 14, 16}) {
            right("the U16 at " + place + " is not looked at", kern().put16("kern", place, 0xA5A5));
        }
    }

    private static void kernPairsLieInIt() {
        wrong("kern without bytes", small().table("kern", new byte[0]));
        for (int size = 1; size < 24; size++) {
            wrong("a pair cut off at " + size, kern().shortened("kern", size));
        }
        right("one pair of 24", kern().shortened("kern", 24));
        right("longer than need be", kern().shortened("kern", 25));
        wrong("one pair too many", kern().put16("kern", 10, 2));
        wrong("two pairs but a byte", kern().put16("kern", 10, 2).shortened("kern", 29));
        right("two pairs", kern().put16("kern", 10, 2).shortened("kern", 30));
        wrong("65535 pairs", kern().put16("kern", 10, 65535));
        right("fewer pairs than bytes", kern().put16("kern", 10, 0));
        // Without pairs nothing is read behind P.
        right("no pair, 12 bytes", kern().put16("kern", 10, 0).shortened("kern", 12));
        wrong("no pair, 11 bytes", kern().put16("kern", 10, 0).shortened("kern", 11));
        right("pairs of glyphs that are not there", small().table("kern", FontFile.kern(new int[] {99, 98, 1})));
    }
}
