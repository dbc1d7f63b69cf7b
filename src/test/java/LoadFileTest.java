import java.nio.charset.StandardCharsets;
import java.util.Arrays;

/** Promise 6, and of the terms: LOADING, FILE, SUMS, TABLES. */
public final class LoadFileTest {
    private static final String[] NEEDED = {"cmap", "glyf", "head", "hhea", "hmtx", "loca", "maxp"};
    private static final long GREATEST = 0xFFFFFFFFL;

    private LoadFileTest() {
    }

    public static void main(String[] args) {
        howManyGlyphs();
        firstNumberIs65536();
        numberOfTables();
        bytesThatAreNotLookedAt();
        entriesLieInTheFile();
        namesRise();
        tablesLieWithinTheFile();
        tablesLieAnywhere();
        sumsOnlyIfChecked();
        sumOnBothSides();
        sumIsModulo();
        zerosBehindTheEnd();
        everyTableHasASum();
        tablesAreThere();
        tablesBehindTheirNumber();
        otherTables();
        firstFaultWins();
        fontOfBeforeStays();
        rightAfterWrong();
        anotherFont();
        fontDoesNotChangeWithTheFile();
        Check.end();
    }

    private static FontFile small() {
        return FontFile.of(FontFile.simple(FontFile.box(0, 0, 10, 20)), new byte[0]);
    }

    private static byte[] with(byte[] file, int place, int value) {
        byte[] other = file.clone();
        other[place] = (byte) value;
        return other;
    }

    private static int unchecked(byte[] file) {
        return FontFile.loaded(file, false);
    }

    private static int checked(byte[] file) {
        return FontFile.loaded(file, true);
    }

    private static void isFile(String what, byte[] file) {
        Check.due(what + ", not checked", unchecked(file), GlyphLines.FILE);
        Check.due(what + ", checked", checked(file), GlyphLines.FILE);
    }

    /** FILE is right, and what comes next is wrong. */
    private static void isTables(String what, byte[] file) {
        Check.due(what, unchecked(file), GlyphLines.TABLES);
    }

    private static void howManyGlyphs() {
        Check.due("2 glyphs, checked", checked(small().done()), 2);
        Check.due("2 glyphs, not checked", unchecked(small().done()), 2);
        for (int many = 1; many <= 16; many++) {
            Check.due(many + " glyphs", FontFile.of(new byte[many][0]).loaded(), many);
        }
    }

    private static void firstNumberIs65536() {
        byte[] file = small().done();
        for (long number : new long[] {0, 1, 65535, 65537, 65536 << 1, 0x01000000, 0x80010000L, GREATEST}) {
            byte[] other = new Bytes().u32(number).all(Arrays.copyOfRange(file, 4, file.length)).done();
            isFile("U32 at 0 is " + number, other);
        }
        Check.due("U32 at 0 is 65536", unchecked(file), 2);
    }

    private static void numberOfTables() {
        isFile("no tables", emptyTables(0));
        isTables("1 table", emptyTables(1));
        isTables("16 tables", emptyTables(16));
        isFile("17 tables", emptyTables(17));
        isFile("256 + 7 tables", with(small().done(), 4, 1));
        isFile("32768 + 7 tables", with(small().done(), 4, 128));
        FontFile most = small();
        for (int t = 0; t < 9; t++) {
            most.table("zzz" + t, new byte[t]);
        }
        Check.due("a font of 16 tables", most.loaded(), 2);
        isFile("a font of 17 tables", most.table("zzzz", new byte[0]).done());
    }

    private static byte[] emptyTables(int many) {
        Bytes bytes = new Bytes().u32(65536).u16(many).zeros(6);
        for (int t = 0; t < many; t++) {
            bytes.u32(t, 0, 0, 0);
        }
        return bytes.done();
    }

    private static void bytesThatAreNotLookedAt() {
        for (int i = 6; i < 12; i++) {
            Check.due("byte " + i, checked(with(small().done(), i, 77)), 2);
        }
    }

    private static void entriesLieInTheFile() {
        byte[] file = small().done();
        for (int size = 0; size < 12 + 16 * 7; size++) {
            isFile("only " + size + " bytes", Arrays.copyOf(file, size));
        }
        for (int many = 1; many <= 16; many++) {
            byte[] tables = emptyTables(many);
            isTables("entries of " + many + " tables", tables);
            isFile("entries of " + many + " tables but a byte", Arrays.copyOf(tables, tables.length - 1));
        }
    }

    private static void namesRise() {
        isTables("a name of 0 first", twoTables(0, 1));
        isTables("names rise by 1", twoTables(5, 6));
        isFile("equal names", twoTables(5, 5));
        isFile("equal names of 0", twoTables(0, 0));
        isFile("names fall by 1", twoTables(6, 5));
        isTables("names have no sign", twoTables(0x7FFFFFFFL, 0x80000000L));
        isFile("names have no sign", twoTables(0x80000000L, 0x7FFFFFFFL));
        isTables("the greatest name", twoTables(GREATEST - 1, GREATEST));
        isFile("the greatest name twice", twoTables(GREATEST, GREATEST));
        byte[] swapped = small().done();
        byte[] entry = Arrays.copyOfRange(swapped, 12 + 80, 12 + 96);
        System.arraycopy(swapped, 12 + 96, swapped, 12 + 80, 16);
        System.arraycopy(entry, 0, swapped, 12 + 96, 16);
        isFile("a font whose last two entries are swapped", swapped);
    }

    private static byte[] twoTables(long one, long other) {
        return new Bytes().u32(65536).u16(2).zeros(6).u32(one, 0, 0, 0, other, 0, 0, 0).done();
    }

    private static void tablesLieWithinTheFile() {
        isTables("all of the file", oneTable(0, 32));
        isFile("one byte too long", oneTable(0, 33));
        isFile("one byte too far", oneTable(1, 32));
        isTables("the last byte", oneTable(31, 1));
        isFile("the byte behind the last", oneTable(32, 1));
        isTables("no bytes at the end", oneTable(32, 0));
        isFile("no bytes behind the end", oneTable(33, 0));
        isFile("a great place", oneTable(GREATEST, 0));
        isFile("a great place, of one byte", oneTable(GREATEST, 1));
        isFile("a great length", oneTable(0, 0x80000000L));
        isFile("the greatest length", oneTable(1, GREATEST));
        isFile("both together 2^32", oneTable(0xFFFFFFF0L, 16));
        isFile("both together 2^32 + 32", oneTable(0xFFFFFFF0L, 48));
        isFile("both together 2^31", oneTable(0x7FFFFFF0L, 16));
        byte[] second = new Bytes().u32(65536).u16(2).zeros(6).u32(1, 0, 0, 44, 2, 0, 44, 1).done();
        isFile("only the second table lies without", second);
    }

    private static byte[] oneTable(long place, long length) {
        return new Bytes().u32(65536).u16(1).zeros(6).u32(9, 0, place, length, 0).done();
    }

    private static void tablesLieAnywhere() {
        byte[] file = small().done();
        int maxp = 12 + 16 * 6;
        int place = FontFile.placeIn(file, "maxp");
        byte[] moved = new Bytes().all(Arrays.copyOf(file, place)).u8(99)
                .all(Arrays.copyOfRange(file, place, place + 6)).done();
        int odd = place + 1;
        Check.due("maxp at an odd place, up to the end of the file",
                checked(with(with(moved, maxp + 10, odd >> 8), maxp + 11, odd)), 2);
        // head has zeros enough for all of hhea but H; both lie in the same bytes.
        byte[] one = FontFile.of(new byte[1][0]).table("head", new Bytes().zeros(18).u16(64).zeros(14).u16(1)
                .zeros(14).u16(1, 0).done()).done();
        int head = FontFile.placeIn(one, "head");
        int hhea = 12 + 16 * 3;
        Check.due("one table in another",
                unchecked(with(with(one, hhea + 10, head >> 8), hhea + 11, head)), 1);
    }

    private static void sumsOnlyIfChecked() {
        byte[] other = with(small().done(), 12 + 4, 77);
        Check.due("a wrong sum, checked", checked(other), GlyphLines.SUMS);
        Check.due("a wrong sum, not checked", unchecked(other), 2);
        GlyphLines lines = new GlyphLines();
        FontFile.into(lines, other);
        Check.due("first not checked", lines.load(false), 2);
        Check.due("then checked", lines.load(true), GlyphLines.SUMS);
        Check.due("then not checked again", lines.load(false), 2);
    }

    private static void sumOnBothSides() {
        byte[] file = small().done();
        for (int t = 0; t < 7; t++) {
            int sum = 12 + 16 * t + 7;
            Check.due("one above the sum", checked(with(file, sum, file[sum] + 1)), GlyphLines.SUMS);
            Check.due("one below the sum", checked(with(file, sum, file[sum] - 1)), GlyphLines.SUMS);
            for (int b = 1; b < 4; b++) {
                byte[] other = with(file, sum - b, file[sum - b] ^ 128);
                Check.due("byte " + b + " of the sum", checked(other), GlyphLines.SUMS);
            }
        }
    }

    private static void sumIsModulo() {
        isSum("2^32 - 1", GREATEST, 0xFFFFFFFEL, 1);
        isSum("2^32", 0, GREATEST, 1);
        isSum("2^32 + 1", 1, GREATEST, 2);
        isSum("2^33 + 3", 3, GREATEST, GREATEST, 5);
        isSum("2^31 + 2^31", 0, 0x80000000L, 0x80000000L);
        isSum("3 * 2^31", 0x80000000L, 0x80000000L, 0x80000000L, 0x80000000L);
    }

    private static void isSum(String what, long due, long... words) {
        byte[] table = new Bytes().u32(words).done();
        Check.due("the sum " + what, checked(summed(table, due)), 2);
        Check.due("the sum " + what + ", one more", checked(summed(table, due + 1)), GlyphLines.SUMS);
        Check.due("the sum " + what + ", one less", checked(summed(table, due - 1)), GlyphLines.SUMS);
    }

    /** A table zzzz with this sum, whichever it has. */
    private static byte[] summed(byte[] table, long sum) {
        byte[] file = small().table("zzzz", table).done();
        int entry = 12 + 16 * 7;
        byte[] four = new Bytes().u32(sum).done();
        System.arraycopy(four, 0, file, entry + 4, 4);
        return file;
    }

    private static void zerosBehindTheEnd() {
        long[] due = {0, 0x91000000L, 0x91910000L, 0x91919100L, 0x91919191L, 0x22919191L};
        for (int size = 0; size < due.length; size++) {
            byte[] table = new byte[size];
            Arrays.fill(table, (byte) 0x91);
            byte[] file = summed(table, due[size]);
            Check.due("a table of " + size, checked(file), 2);
            int end = FontFile.placeIn(file, "zzzz") + size;
            Check.due("a table of " + size + " at the file's end", checked(Arrays.copyOf(file, end)), 2);
            byte[] more = new Bytes().all(Arrays.copyOf(file, end)).u32(GREATEST).done();
            Check.due("a table of " + size + ", others behind it", checked(more), 2);
        }
        // The two bytes behind head's 54 belong to no table.
        byte[] file = small().done();
        int behind = FontFile.placeIn(file, "head") + 54;
        Check.due("the last byte of head", checked(with(file, behind - 1, 7)), GlyphLines.SUMS);
        Check.due("the byte behind head", checked(with(file, behind, 7)), 2);
    }

    private static void everyTableHasASum() {
        byte[] file = small().table("AAAA", new byte[4]).table("zzzz", new byte[4]).done();
        for (int t = 0; t < 9; t++) {
            byte[] other = with(file, 12 + 16 * t + 4, file[12 + 16 * t + 4] + 1);
            Check.due("the sum of table " + t, checked(other), GlyphLines.SUMS);
        }
    }

    private static void tablesAreThere() {
        for (String name : NEEDED) {
            Check.due("without " + name, small().without(name).loaded(), GlyphLines.TABLES);
            byte[] file = small().done();
            int place = new String(file, StandardCharsets.ISO_8859_1).indexOf(name);
            byte[] other = with(file, place + 3, file[place + 3] + 1);
            Check.due(name + " called otherwise", unchecked(other), GlyphLines.TABLES);
            byte[] upper = with(file, place + 3, file[place + 3] - 32);
            Check.due(name + " with a great letter", unchecked(upper), GlyphLines.TABLES);
        }
        Check.due("without kern", small().loaded(), 2);
        Check.due("with kern", small().table("kern", FontFile.kern()).loaded(), 2);
    }

    private static void tablesBehindTheirNumber() {
        // The bytes behind the directory look like one more entry.
        FontFile alike = small().without("maxp").table("AAAA", new Bytes().u32(0x6D617870, 0, 0, 12).done());
        Check.due("maxp behind the directory", alike.loaded(), GlyphLines.TABLES);
    }

    private static void otherTables() {
        Check.due("others too", small().table("AAAA", new byte[3]).table("zzzz", new byte[5]).loaded(), 2);
        Check.due("others between", small().table("cmaq", new byte[3]).table("ghij", new byte[0]).loaded(), 2);
    }

    private static void firstFaultWins() {
        FontFile glyphs = FontFile.of(new Bytes().u16(5).done());
        Check.due("GLYPHS", glyphs.loaded(), GlyphLines.GLYPHS);
        FontFile forms = glyphs.table("kern", new byte[1]);
        Check.due("FORMS before GLYPHS", forms.loaded(), GlyphLines.FORMS);
        byte[] tables = forms.without("cmap").done();
        Check.due("TABLES before FORMS", checked(tables), GlyphLines.TABLES);
        byte[] sums = with(tables, 12 + 7, tables[12 + 7] + 1);
        Check.due("SUMS before TABLES", checked(sums), GlyphLines.SUMS);
        Check.due("SUMS are not asked for", unchecked(sums), GlyphLines.TABLES);
        isFile("FILE before SUMS", with(sums, 0, 1));
        // In the last entry alone: what is wrong in the first ones does not come before it.
        isFile("FILE of the last table before SUMS of the first", with(sums, 12 + 16 * 6 + 12, 1));
        byte[] onlySums = with(small().done(), 12 + 7, 77);
        Check.due("SUMS before FORMS", checked(with(onlySums, FontFile.placeIn(onlySums, "head") + 51, 2)),
                GlyphLines.SUMS);
        Check.due("SUMS before GLYPHS", checked(with(onlySums, FontFile.placeIn(onlySums, "glyf") + 1, 9)),
                GlyphLines.SUMS);
    }

    private static void fontOfBeforeStays() {
        byte[] broken = FontFile.of(new byte[0], FontFile.simple(FontFile.box(1, 2, 3, 4)),
                new Bytes().u16(5).done()).table("head", FontFile.head(128, 1)).done();
        byte[] formless = small().table("hmtx", new Bytes().u16(99, 0).done()).done();
        GlyphLines lines = new GlyphLines();
        fails("GLYPHS at first", lines, broken, GlyphLines.GLYPHS);
        Check.state("there is no font yet", () -> lines.measure(0, 0));
        small().into(lines);
        Check.due("a right one", lines.load(true), 2);
        fails("GLYPHS", lines, broken, GlyphLines.GLYPHS);
        checkSmall(lines);
        fails("FORMS", lines, formless, GlyphLines.FORMS);
        checkSmall(lines);
        fails("TABLES", lines, emptyTables(3), GlyphLines.TABLES);
        checkSmall(lines);
        fails("SUMS", lines, with(emptyTables(1), 12 + 7, 1), GlyphLines.SUMS);
        checkSmall(lines);
        fails("FILE", lines, emptyTables(0), GlyphLines.FILE);
        checkSmall(lines);
    }

    private static void fails(String what, GlyphLines lines, byte[] file, int due) {
        FontFile.into(lines, file);
        Check.due(what, lines.load(true), due);
    }

    private static void rightAfterWrong() {
        byte[] dot = FontFile.simple(FontFile.lines(1, 1));
        byte[] cut = Arrays.copyOf(dot, dot.length - 1);
        byte[] part = FontFile.composed(FontFile.part(0, 1, 0, 0));
        FontFile[] wrong = {small().shortened("loca", 11), small().shortened("head", 19), small().shortened("hhea", 35),
            small().shortened("maxp", 5), small().shortened("hmtx", 3), small().shortened("cmap", 20),
            small().table("kern", new byte[11]), FontFile.of(cut), FontFile.of(part, cut),
            FontFile.of(part, FontFile.composed(FontFile.part(0, 2, 0, 0)), cut),
            FontFile.of(FontFile.composed(new byte[3]))};
        for (FontFile file : wrong) {
            GlyphLines lines = new GlyphLines();
            file.into(lines);
            Check.due("a wrong one", lines.load(true) < 0, true);
            FontFile right = FontFile.of(FontFile.composed(FontFile.part(0, 1, 0, 0)),
                    FontFile.composed(FontFile.part(0, 2, 0, 0)), dot).table("kern", FontFile.kern());
            right.into(lines);
            Check.due("a right one behind it", lines.load(true), 3);
            Check.due("its points", lines.measure(0, 1), 1);
            Check.due("its width", lines.measure(2, 0), 12);
        }
    }

    private static void anotherFont() {
        GlyphLines lines = small().font();
        FontFile.of(new byte[0], new byte[0], new byte[0]).into(lines);
        Check.due("another font", lines.load(true), 3);
        Check.due("its measure(0, 1)", lines.measure(0, 1), 0);
        Check.due("its measure(2, 0)", lines.measure(2, 0), 12);
        small().into(lines);
        Check.due("the first again", lines.load(true), 2);
        checkSmall(lines);
    }

    private static void fontDoesNotChangeWithTheFile() {
        GlyphLines lines = small().font();
        for (int i = 0; i < 200; i++) {
            lines.put(i, 255);
        }
        checkSmall(lines);
        lines.cut(0);
        checkSmall(lines);
        Check.due("load of the empty file", lines.load(false), GlyphLines.FILE);
        checkSmall(lines);
    }

    private static void checkSmall(GlyphLines lines) {
        Check.due("measure(0, 0)", lines.measure(0, 0), 10);
        Check.due("measure(1, 0)", lines.measure(1, 0), 11);
        Check.due("measure(0, 1)", lines.measure(0, 1), 4);
        Check.due("point(0, 2, 0)", lines.point(0, 2, 0), 10);
        Check.due("point(0, 2, 1)", lines.point(0, 2, 1), 20);
        Check.due("glyph(1)", lines.glyph(1), 1);
        Check.due("glyph(2)", lines.glyph(2), 0);
        Check.index("measure(2, 0)", () -> lines.measure(2, 0));
    }
}
