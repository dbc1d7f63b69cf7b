import java.nio.charset.StandardCharsets;
import java.util.Arrays;

/** Promise 6: what load says of FILE, SUMS, TABLES, and that the font of before stays. */
public final class LoadFileTest {
    private static final String[] NEEDED = {"cmap", "glyf", "head", "hhea", "hmtx", "loca", "maxp"};

    private LoadFileTest() {
    }

    public static void main(String[] args) {
        beginning();
        directory();
        names();
        tablesInTheFile();
        sums();
        tables();
        firstFaultWins();
        fontOfBeforeStays();
        anotherFont();
        fontDoesNotChangeWithTheFile();
        Check.end();
    }

    private static FontFile small() {
        return FontFile.of(FontFile.simple(FontFile.box(0, 0, 10, 20)), new byte[0]);
    }

    private static byte[] with(byte[] file, int place, int value) {
        byte[] other = file.clone();
        other[place] = (byte) value;
        return other;
    }

    private static int unchecked(byte[] file) {
        return FontFile.loaded(file, false);
    }

    private static void beginning() {
        byte[] file = small().done();
        Check.due("a right file, checked", FontFile.loaded(file, true), 2);
        Check.due("a right file, not checked", unchecked(file), 2);
        for (int i = 0; i < 4; i++) {
            Check.due("U32 at 0, byte " + i, unchecked(with(file, i, 2)), GlyphLines.FILE);
        }
        Check.due("no tables", unchecked(with(file, 5, 0)), GlyphLines.FILE);
        Check.due("17 tables", unchecked(with(file, 5, 17)), GlyphLines.FILE);
        Check.due("256 + 7 tables", unchecked(with(file, 4, 1)), GlyphLines.FILE);
        for (int i = 6; i < 12; i++) {
            Check.due("bytes 6 to 11 are not looked at", unchecked(with(file, i, 77)), 2);
        }
    }

    private static void directory() {
        byte[] file = small().done();
        for (int size = 0; size < 12 + 16 * 7; size++) {
            int found = unchecked(Arrays.copyOf(file, size));
            Check.due("only " + size + " bytes", found, GlyphLines.FILE);
        }
        Check.due("a table without bytes", unchecked(emptyTables(1)), GlyphLines.TABLES);
        Check.due("the same, 27 bytes", unchecked(Arrays.copyOf(emptyTables(1), 27)), GlyphLines.FILE);
        Check.due("16 tables", FontFile.loaded(emptyTables(16), true), GlyphLines.TABLES);
        Check.due("17 tables", FontFile.loaded(emptyTables(17), true), GlyphLines.FILE);
    }

    private static byte[] emptyTables(int many) {
        Bytes bytes = new Bytes().u32(65536).u16(many).zeros(6);
        for (int t = 0; t < many; t++) {
            bytes.u32(t, 0, 0, 0);
        }
        return bytes.done();
    }

    private static void names() {
        Check.due("name 0 first", unchecked(twoTables(0, 1)), GlyphLines.TABLES);
        Check.due("equal names", unchecked(twoTables(5, 5)), GlyphLines.FILE);
        Check.due("falling names", unchecked(twoTables(6, 5)), GlyphLines.FILE);
        Check.due("names have no sign", unchecked(twoTables(5, 0x80000000L)), GlyphLines.TABLES);
        Check.due("names have no sign", unchecked(twoTables(0xFFFFFFFFL, 5)), GlyphLines.FILE);
    }

    private static byte[] twoTables(long one, long other) {
        return new Bytes().u32(65536).u16(2).zeros(6).u32(one, 0, 0, 0, other, 0, 0, 0).done();
    }

    private static void tablesInTheFile() {
        Check.due("all of the file", unchecked(oneTable(0, 32)), GlyphLines.TABLES);
        Check.due("one byte too long", unchecked(oneTable(0, 33)), GlyphLines.FILE);
        Check.due("one byte too far", unchecked(oneTable(1, 32)), GlyphLines.FILE);
        Check.due("no bytes at the end", unchecked(oneTable(32, 0)), GlyphLines.TABLES);
        Check.due("no bytes behind the end", unchecked(oneTable(33, 0)), GlyphLines.FILE);
        Check.due("a great place", unchecked(oneTable(0xFFFFFFFFL, 0)), GlyphLines.FILE);
        Check.due("a great length", unchecked(oneTable(0, 0x80000000L)), GlyphLines.FILE);
        Check.due("both together 2^32", unchecked(oneTable(0xFFFFFFF0L, 16)), GlyphLines.FILE);
    }

    private static byte[] oneTable(long place, long length) {
        return new Bytes().u32(65536).u16(1).zeros(6).u32(9, 0, place, length, 0).done();
    }

    private static void sums() {
        byte[] file = small().done();
        for (int t = 0; t < 7; t++) {
            byte[] other = with(file, 12 + 16 * t + 7, file[12 + 16 * t + 7] + 1);
            Check.due("a wrong sum, checked", FontFile.loaded(other, true), GlyphLines.SUMS);
            Check.due("a wrong sum, not checked", unchecked(other), 2);
        }
        int head = 12 + 16 * 2;
        Check.due("a sum's highest byte", FontFile.loaded(with(file, head + 4, 1), true), GlyphLines.SUMS);
        // The bytes behind head's 54, up to the next table, belong to no table.
        int behind = ((file[head + 10] & 255) << 8 | file[head + 11] & 255) + 54;
        Check.due("bytes behind a table's end", FontFile.loaded(with(file, behind, 7), true), 2);
        FontFile great = small().table("zzzz", new Bytes().u32(0xFFFFFFFFL, 0xFFFFFFFFL, 5).done());
        Check.due("a sum above 2^32", great.loaded(), 2);
        for (int size = 0; size < 9; size++) {
            byte[] more = new byte[size];
            Arrays.fill(more, (byte) 0x91);
            Check.due("a table of " + size, small().table("zzzz", more).loaded(), 2);
        }
    }

    private static void tables() {
        for (String name : NEEDED) {
            Check.due("without " + name, small().without(name).loaded(), GlyphLines.TABLES);
            byte[] file = small().done();
            int place = new String(file, StandardCharsets.ISO_8859_1).indexOf(name);
            byte[] other = with(file, place + 3, file[place + 3] + 1);
            Check.due(name + " called otherwise", unchecked(other), GlyphLines.TABLES);
        }
        // The bytes behind the directory look like one more entry.
        FontFile alike = small().without("maxp").table("AAAA", new Bytes().u32(0x6D617870, 0, 0, 12).done());
        Check.due("maxp behind the directory", alike.loaded(), GlyphLines.TABLES);
        Check.due("others too", small().table("AAAA", new byte[3]).table("zzzz", new byte[5]).loaded(), 2);
    }

    private static void firstFaultWins() {
        FontFile font = small().table("head", new byte[2]);
        Check.due("FORMS", font.loaded(), GlyphLines.FORMS);
        byte[] file = font.without("cmap").done();
        Check.due("TABLES before FORMS", FontFile.loaded(file, true), GlyphLines.TABLES);
        byte[] summed = with(file, 12 + 7, file[12 + 7] + 1);
        Check.due("SUMS before TABLES", FontFile.loaded(summed, true), GlyphLines.SUMS);
        Check.due("SUMS are not asked for", unchecked(summed), GlyphLines.TABLES);
        byte[] broken = with(summed, 0, 1);
        Check.due("FILE before SUMS", FontFile.loaded(broken, true), GlyphLines.FILE);
        FontFile glyphs = FontFile.of(new Bytes().u16(5).done());
        Check.due("GLYPHS", glyphs.loaded(), GlyphLines.GLYPHS);
        glyphs.table("kern", new byte[1]);
        Check.due("FORMS before GLYPHS", glyphs.loaded(), GlyphLines.FORMS);
    }

    private static void fontOfBeforeStays() {
        FontFile right = small();
        FontFile broken = FontFile.of(new byte[0], FontFile.simple(FontFile.box(1, 2, 3, 4)),
                new Bytes().u16(5).done()).table("head", FontFile.head(128, 1));
        FontFile formless = small().table("hmtx", new Bytes().u16(99, 0).done());
        GlyphLines lines = new GlyphLines();
        broken.into(lines);
        Check.due("a first load that fails", lines.load(true), GlyphLines.GLYPHS);
        Check.state("there is no font yet", () -> lines.measure(0, 0));
        right.into(lines);
        Check.due("a right one", lines.load(true), 2);
        broken.into(lines);
        Check.due("GLYPHS are wrong", lines.load(true), GlyphLines.GLYPHS);
        checkSmall(lines);
        formless.into(lines);
        Check.due("FORMS are wrong", lines.load(true), GlyphLines.FORMS);
        checkSmall(lines);
    }

    private static void anotherFont() {
        GlyphLines lines = small().font();
        FontFile.of(new byte[0], new byte[0], new byte[0]).into(lines);
        Check.due("another font", lines.load(true), 3);
        Check.due("its measure(0, 1)", lines.measure(0, 1), 0);
        Check.due("its measure(2, 0)", lines.measure(2, 0), 12);
        small().into(lines);
        Check.due("the first again", lines.load(true), 2);
        checkSmall(lines);
    }

    private static void fontDoesNotChangeWithTheFile() {
        GlyphLines lines = small().font();
        for (int i = 0; i < 200; i++) {
            lines.put(i, 255);
        }
        checkSmall(lines);
        lines.cut(0);
        checkSmall(lines);
        Check.due("load of the empty file", lines.load(false), GlyphLines.FILE);
        checkSmall(lines);
    }

    private static void checkSmall(GlyphLines lines) {
        Check.due("measure(0, 0)", lines.measure(0, 0), 10);
        Check.due("measure(1, 0)", lines.measure(1, 0), 11);
        Check.due("measure(0, 1)", lines.measure(0, 1), 4);
        Check.due("point(0, 2, 0)", lines.point(0, 2, 0), 10);
        Check.due("point(0, 2, 1)", lines.point(0, 2, 1), 20);
        Check.due("glyph(1)", lines.glyph(1), 1);
        Check.due("glyph(2)", lines.glyph(2), 0);
        Check.index("measure(2, 0)", () -> lines.measure(2, 0));
    }
}
