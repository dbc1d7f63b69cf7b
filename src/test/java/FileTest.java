/** Promises 1 to 5: a new object, feed, put, at, cut. */
public final class FileTest {
    private FileTest() {
    }

    public static void main(String[] args) {
        newObject();
        feed();
        feedUpToTheLimit();
        feedBehindAnOddCut();
        put();
        at();
        cut();
        Check.end();
    }

    private static void newObject() {
        GlyphLines lines = new GlyphLines();
        Check.due("at(0) of a new object", lines.at(0), GlyphLines.NONE);
        Check.due("cut(0) of a new object", lines.cut(0), 0);
        Check.due("wipe() of a new object", lines.wipe(), 0);
        for (int r = 0; r < 24; r++) {
            Check.due("row of a new object", lines.row(r), 0);
        }
        Check.state("glyph(0) of a new object", () -> lines.glyph(0));
        Check.state("paint(4) of a new object", () -> lines.paint(4));
        Check.due("load of a new object", lines.load(true), GlyphLines.FILE);
    }

    private static void feed() {
        GlyphLines lines = new GlyphLines();
        Check.due("feed", lines.feed(0x01020304), 4);
        Check.due("feed", lines.feed(0xFF80007F), 8);
        int[] due = {1, 2, 3, 4, 255, 128, 0, 127, GlyphLines.NONE};
        for (int i = 0; i < due.length; i++) {
            Check.due("at(" + i + ")", lines.at(i), due[i]);
        }
    }

    private static void feedUpToTheLimit() {
        GlyphLines lines = new GlyphLines();
        for (int i = 4; i <= 1200; i += 4) {
            Check.due("feed", lines.feed(i), i);
        }
        Check.due("feed beyond 1200", lines.feed(-1), GlyphLines.NONE);
        Check.due("at(1199)", lines.at(1199), 1200 & 255);
        Check.due("at(1200)", lines.at(1200), GlyphLines.NONE);
        Check.due("cut(1197)", lines.cut(1197), 3);
        Check.due("feed beyond 1200", lines.feed(-1), GlyphLines.NONE);
        Check.due("at(1197)", lines.at(1197), GlyphLines.NONE);
        Check.due("cut(1196)", lines.cut(1196), 1);
        Check.due("feed up to 1200", lines.feed(-1), 1200);
    }

    private static void feedBehindAnOddCut() {
        GlyphLines lines = new GlyphLines();
        lines.feed(0x01020304);
        Check.due("cut(3)", lines.cut(3), 1);
        Check.due("feed behind 3 bytes", lines.feed(0x05060708), 7);
        int[] due = {1, 2, 3, 5, 6, 7, 8, GlyphLines.NONE};
        for (int i = 0; i < due.length; i++) {
            Check.due("at(" + i + ")", lines.at(i), due[i]);
        }
    }

    private static void put() {
        GlyphLines lines = new GlyphLines();
        Check.index("put into an empty file", () -> lines.put(0, 0));
        lines.feed(0x01020304);
        Check.due("put(1, 255)", lines.put(1, 255), 2);
        Check.due("put(1, 0)", lines.put(1, 0), 255);
        Check.due("put(3, 9)", lines.put(3, 9), 4);
        Check.index("put(-1, 0)", () -> lines.put(-1, 0));
        Check.index("put(4, 0)", () -> lines.put(4, 0));
        Check.index("put(4, 256): the first exception wins", () -> lines.put(4, 256));
        Check.argument("put(0, 256)", () -> lines.put(0, 256));
        Check.argument("put(0, -1)", () -> lines.put(0, -1));
        int[] due = {1, 0, 3, 9, GlyphLines.NONE};
        for (int i = 0; i < due.length; i++) {
            Check.due("at(" + i + ")", lines.at(i), due[i]);
        }
    }

    private static void at() {
        GlyphLines lines = new GlyphLines();
        lines.feed(0x0A0B0C0D);
        Check.due("at(0)", lines.at(0), 10);
        Check.due("at(3)", lines.at(3), 13);
        Check.due("at(4)", lines.at(4), GlyphLines.NONE);
        Check.due("at(-1)", lines.at(-1), GlyphLines.NONE);
        Check.due("at(the greatest)", lines.at(Integer.MAX_VALUE), GlyphLines.NONE);
        Check.due("at(the least)", lines.at(Integer.MIN_VALUE), GlyphLines.NONE);
    }

    private static void cut() {
        GlyphLines lines = new GlyphLines();
        lines.feed(1);
        lines.feed(2);
        Check.argument("cut(-1)", () -> lines.cut(-1));
        Check.argument("cut(the least)", () -> lines.cut(Integer.MIN_VALUE));
        Check.due("cut(the greatest)", lines.cut(Integer.MAX_VALUE), 0);
        Check.due("cut(8)", lines.cut(8), 0);
        Check.due("at(7)", lines.at(7), 2);
        Check.due("cut(5)", lines.cut(5), 3);
        Check.due("at(4)", lines.at(4), 0);
        Check.due("at(5)", lines.at(5), GlyphLines.NONE);
        Check.index("put(5, 1)", () -> lines.put(5, 1));
        Check.due("cut(0)", lines.cut(0), 5);
        Check.due("cut(0)", lines.cut(0), 0);
    }
}
