import java.util.List;
import java.util.function.Consumer;

/**
 * "A call that throws changes nothing", nor does one that is refused, or only asks: two objects are led
 * alike, but for the one call, and must then answer all questions alike.
 */
public final class NothingChangesTest {
    private static final int[] FAR = {Integer.MIN_VALUE, -1, Integer.MAX_VALUE};

    private NothingChangesTest() {
    }

    public static void main(String[] args) {
        withoutAFont();
        fileCallsThatThrow();
        feedThatIsRefused();
        askingForBytes();
        loadsThatFail();
        firstLoadsThatFail();
        loadChangesTheFontAlone();
        glyphAndKerning();
        measureAndPoint();
        typeThatIsRefused();
        wipeOfNoText();
        paintThatThrows();
        rowThatThrows();
        Check.end();
    }

    private static void unchanged(String call, Consumer<GlyphLines> way, Consumer<GlyphLines> made) {
        unchanged(call, way, made, 3);
    }

    private static void unchanged(String call, Consumer<GlyphLines> way, Consumer<GlyphLines> made, int step) {
        GlyphLines with = new GlyphLines();
        way.accept(with);
        made.accept(with);
        GlyphLines without = new GlyphLines();
        way.accept(without);
        List<String> got = Seen.of(with, step);
        List<String> due = Seen.of(without, step);
        Check.due(call + ": as many bytes", got.size(), due.size());
        for (int i = 0; i < Math.min(got.size(), due.size()); i++) {
            if (!got.get(i).equals(due.get(i))) {
                Check.due(call + " changed " + due.get(i) + " to " + got.get(i), false, true);
            }
        }
    }

    /** Another font in all that can be asked. */
    private static FontFile other() {
        FontFile font = FontFile.of(FontFile.simple(FontFile.box(0, 0, 9, 9)),
                FontFile.simple(FontFile.lines(1, 1, 33, 3, 5, 50)));
        font.table("head", FontFile.head(128, 1)).table("hmtx", new Bytes().u16(77, 0, 88, 0).done());
        font.table("kern", FontFile.kern(new int[] {1, 1, 55}));
        return font.table("cmap", FontFile.cmap(FontFile.range(0, 65535, 1, 0)));
    }

    private static FontFile font() {
        FontFile font = FontFile.of(new byte[0], FontFile.simple(FontFile.box(0, 0, 8, 8)),
                FontFile.composed(FontFile.part(0, 1, 4, 4)));
        return font.table("kern", FontFile.kern(new int[] {1, 2, -3}));
    }

    /** A font, a picture, a text that is not the one painted, and a file that is not the font's. */
    private static void busy(GlyphLines lines) {
        font().into(lines);
        Check.due("load(true)", lines.load(true), 3);
        lines.type(1);
        lines.type(2);
        lines.paint(20);
        lines.type(2);
        lines.put(5, 99);
        lines.put(0, 77);
    }

    private static void small(GlyphLines lines) {
        lines.feed(0x01020304);
        lines.feed(0x05060708);
        lines.cut(7);
        lines.type(5);
    }

    private static void full(GlyphLines lines) {
        for (int i = 0; i < 300; i++) {
            lines.feed(i * 0x01030507);
        }
        for (int i = 0; i < 12; i++) {
            lines.type(i);
        }
    }

    private static void empty(GlyphLines lines) {
        Check.due("a new object", lines.at(0), GlyphLines.NONE);
    }

    private static void withoutAFont() {
        unchanged("glyph", NothingChangesTest::small, x -> Check.state("glyph(5)", () -> x.glyph(5)));
        unchanged("measure", NothingChangesTest::small, x -> Check.state("measure(0, 1)", () -> x.measure(0, 1)));
        unchanged("point", NothingChangesTest::small, x -> Check.state("point(0, 0, 0)", () -> x.point(0, 0, 0)));
        unchanged("kerning", NothingChangesTest::small, x -> Check.state("kerning(0, 0)", () -> x.kerning(0, 0)));
        unchanged("paint", NothingChangesTest::small, x -> Check.state("paint(16)", () -> x.paint(16)));
        unchanged("paint", NothingChangesTest::empty, x -> Check.state("paint(16)", () -> x.paint(16)));
    }

    private static void fileCallsThatThrow() {
        for (int i : new int[] {Integer.MIN_VALUE, -1, 7, 8, Integer.MAX_VALUE}) {
            String call = "put(" + i + ", 9)";
            unchanged(call, NothingChangesTest::small, x -> Check.index(call, () -> x.put(i, 9)), 1);
        }
        for (int b : new int[] {Integer.MIN_VALUE, -1, 256, Integer.MAX_VALUE}) {
            String call = "put(0, " + b + ")";
            unchanged(call, NothingChangesTest::small, x -> Check.argument(call, () -> x.put(0, b)), 1);
            unchanged(call, NothingChangesTest::busy, x -> Check.argument(call, () -> x.put(0, b)));
        }
        unchanged("put(0, 9)", NothingChangesTest::empty, x -> Check.index("put(0, 9)", () -> x.put(0, 9)));
        unchanged("put(1200, 9)", NothingChangesTest::full, x -> Check.index("put(1200, 9)", () -> x.put(1200, 9)), 13);
        unchanged("cut(-1)", NothingChangesTest::small, x -> Check.argument("cut(-1)", () -> x.cut(-1)), 1);
        unchanged("cut(-7)", NothingChangesTest::small, x -> Check.argument("cut(-7)", () -> x.cut(-7)), 1);
        unchanged("cut(-1)", NothingChangesTest::busy, x -> Check.argument("cut(-1)", () -> x.cut(-1)));
        unchanged("cut(the least)", NothingChangesTest::full,
                x -> Check.argument("cut(the least)", () -> x.cut(Integer.MIN_VALUE)), 13);
    }

    private static void feedThatIsRefused() {
        for (int size = 1197; size <= 1200; size++) {
            int left = size;
            Consumer<GlyphLines> way = x -> {
                full(x);
                x.cut(left);
            };
            unchanged("feed behind " + size, way, x -> Check.due("feed", x.feed(-1), GlyphLines.NONE), 11);
        }
    }

    private static void askingForBytes() {
        for (int i : new int[] {Integer.MIN_VALUE, -1, 0, 6, 7, Integer.MAX_VALUE}) {
            unchanged("at(" + i + ")", NothingChangesTest::small, x -> x.at(i), 1);
        }
        unchanged("cut(7) of 7", NothingChangesTest::small, x -> Check.due("cut(7)", x.cut(7), 0), 1);
        unchanged("cut(8) of 7", NothingChangesTest::small, x -> Check.due("cut(8)", x.cut(8), 0), 1);
    }

    /** Behind the way, the file is other(), with one byte changed, so that loading it says what is due. */
    private static Consumer<GlyphLines> broken(Consumer<GlyphLines> way, String table, int place, int b) {
        byte[] file = other().done();
        int at = place + (table.isEmpty() ? 0 : FontFile.placeIn(file, table));
        return x -> {
            way.accept(x);
            FontFile.into(x, file);
            x.put(at, b);
        };
    }

    private static void loadsThatFail(Consumer<GlyphLines> way) {
        loadThatFails(broken(way, "", 3, 1), false, GlyphLines.FILE);
        loadThatFails(broken(way, "", 12 + 4, 1), true, GlyphLines.SUMS);
        loadThatFails(broken(way, "", 12 + 3, 'o'), false, GlyphLines.TABLES);
        loadThatFails(broken(way, "kern", 9, 2), false, GlyphLines.FORMS);
        loadThatFails(broken(way, "loca", 11, 1), false, GlyphLines.FORMS);
        loadThatFails(broken(way, "glyf", 34 + 1, 5), false, GlyphLines.GLYPHS);
    }

    private static void loadThatFails(Consumer<GlyphLines> way, boolean checked, int due) {
        String call = "load(" + checked + ")";
        unchanged(call + " that answers " + due, way, x -> Check.due(call, x.load(checked), due));
        unchanged(call + " that answers " + due + " twice", way, x -> {
            Check.due(call, x.load(checked), due);
            Check.due(call + " again", x.load(checked), due);
        });
    }

    private static void loadsThatFail() {
        loadsThatFail(NothingChangesTest::busy);
    }

    private static void firstLoadsThatFail() {
        loadsThatFail(x -> x.type(1));
    }

    private static void loadChangesTheFontAlone() {
        GlyphLines lines = new GlyphLines();
        busy(lines);
        other().into(lines);
        long[] rows = new long[24];
        for (int r = 0; r < 24; r++) {
            rows[r] = lines.row(r);
        }
        Check.due("something is painted", rows[15] != 0, true);
        Check.due("load(true)", lines.load(true), 2);
        for (int r = 0; r < 24; r++) {
            Check.due("the picture stays: row(" + r + ")", lines.row(r), rows[r]);
        }
        Check.due("the file stays: at(3)", lines.at(3), 0);
        Check.due("the file stays: load(true)", lines.load(true), 2);
        Check.due("the font is another", lines.measure(1, 0), 88);
        Check.due("the text stays", lines.wipe(), 3);
        unchanged("load of the same file again", x -> {
            font().into(x);
            x.load(true);
            x.type(2);
        }, x -> Check.due("load(false)", x.load(false), 3));
    }

    private static void glyphAndKerning() {
        for (int c : new int[] {-1, 65536, Integer.MIN_VALUE, Integer.MAX_VALUE}) {
            String call = "glyph(" + c + ")";
            unchanged(call, NothingChangesTest::busy, x -> Check.argument(call, () -> x.glyph(c)));
        }
        unchanged("glyph(2)", NothingChangesTest::busy, x -> Check.due("glyph(2)", x.glyph(2), 2));
        for (int g : new int[] {-1, 3}) {
            String left = "kerning(" + g + ", 0)";
            String right = "kerning(0, " + g + ")";
            unchanged(left, NothingChangesTest::busy, x -> Check.index(left, () -> x.kerning(g, 0)));
            unchanged(right, NothingChangesTest::busy, x -> Check.index(right, () -> x.kerning(0, g)));
        }
        unchanged("kerning(1, 2)", NothingChangesTest::busy, x -> Check.due("kerning(1, 2)", x.kerning(1, 2), -3));
    }

    private static void measureAndPoint() {
        for (int g : new int[] {-1, 3}) {
            unchanged("measure", NothingChangesTest::busy, x -> Check.index("measure(" + g + ", 1)",
                    () -> x.measure(g, 1)));
            unchanged("point", NothingChangesTest::busy, x -> Check.index("point(" + g + ", 0, 0)",
                    () -> x.point(g, 0, 0)));
        }
        for (int what : new int[] {-1, 3, 4}) {
            unchanged("measure", NothingChangesTest::busy, x -> Check.index("measure(1, " + what + ")",
                    () -> x.measure(1, what)));
        }
        unchanged("point(2, 4, 0)", NothingChangesTest::busy, x -> Check.index("point(2, 4, 0)",
                () -> x.point(2, 4, 0)));
        unchanged("point(2, 0, 4)", NothingChangesTest::busy, x -> Check.index("point(2, 0, 4)",
                () -> x.point(2, 0, 4)));
        unchanged("measure(2, 2)", NothingChangesTest::busy, x -> Check.due("measure(2, 2)", x.measure(2, 2), 1));
        unchanged("point(2, 3, 0)", NothingChangesTest::busy, x -> Check.due("point(2, 3, 0)", x.point(2, 3, 0), 12));
    }

    private static void typeThatIsRefused() {
        for (int c : new int[] {-1, 65536, Integer.MIN_VALUE, Integer.MAX_VALUE}) {
            String call = "type(" + c + ")";
            unchanged(call, NothingChangesTest::busy, x -> Check.due(call, x.type(c), false));
            unchanged(call, NothingChangesTest::empty, x -> Check.due(call, x.type(c), false));
        }
        unchanged("the 13th", NothingChangesTest::full, x -> Check.due("type(1)", x.type(1), false), 13);
        unchanged("the 13th, with a font", x -> {
            busy(x);
            for (int i = 0; i < 9; i++) {
                Check.due("type(1)", x.type(1), true);
            }
        }, x -> Check.due("type(2)", x.type(2), false));
    }

    private static void wipeOfNoText() {
        unchanged("wipe() of no text", x -> {
            busy(x);
            x.wipe();
        }, x -> Check.due("wipe()", x.wipe(), 0));
    }

    private static void paintThatThrows() {
        for (int ppem : new int[] {Integer.MIN_VALUE, -4, 0, 3, 25, Integer.MAX_VALUE}) {
            String call = "paint(" + ppem + ")";
            unchanged(call, NothingChangesTest::busy, x -> Check.argument(call, () -> x.paint(ppem)));
        }
    }

    private static void rowThatThrows() {
        for (int r : FAR) {
            unchanged("row(" + r + ")", NothingChangesTest::busy, x -> Check.index("row(" + r + ")", () -> x.row(r)));
        }
        unchanged("row(24)", NothingChangesTest::busy, x -> Check.index("row(24)", () -> x.row(24)));
        unchanged("row(15)", NothingChangesTest::busy, x -> Check.due("row(15)", x.row(15) != 0, true));
    }
}
