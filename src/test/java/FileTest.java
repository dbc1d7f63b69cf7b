/** Promises 1 to 5: a new object, feed, put, at, cut; and of the terms: THE FILE has at most 1200 bytes. */
public final class FileTest {
    private static final int LEAST = Integer.MIN_VALUE;
    private static final int GREATEST = Integer.MAX_VALUE;

    private FileTest() {
    }

    public static void main(String[] args) {
        newFileIsEmpty();
        newObjectHasNoFont();
        newObjectHasNoText();
        newPictureIsEmpty();
        feedPutsTheHighestByteFirst();
        feedUpToTheLimit();
        feedBehindAnOddCut();
        feedAfterItWasRefused();
        putAnswersWhatWas();
        putWhereThereIsNoByte();
        putWhatIsNoByte();
        putThrowsTheFirstException();
        putInAFullFile();
        atBothEnds();
        cutLeavesTheFirst();
        cutOfMoreThanThereIs();
        cutBelowZero();
        cutBytesAreGone();
        lastOf512Calls();
        Check.end();
    }

    private static void bytes(String what, GlyphLines lines, int... due) {
        for (int i = 0; i < due.length; i++) {
            Check.due(what + ": at(" + i + ")", lines.at(i), due[i]);
        }
        Check.due(what + ": at(" + due.length + ")", lines.at(due.length), GlyphLines.NONE);
    }

    private static GlyphLines fed(int... words) {
        GlyphLines lines = new GlyphLines();
        for (int word : words) {
            lines.feed(word);
        }
        return lines;
    }

    private static GlyphLines full(int left) {
        GlyphLines lines = new GlyphLines();
        for (int i = 4; i <= 1200; i += 4) {
            Check.due("feed", lines.feed(i), i);
        }
        Check.due("cut(" + left + ")", lines.cut(left), 1200 - left);
        return lines;
    }

    private static void newFileIsEmpty() {
        bytes("a new file", new GlyphLines());
        Check.due("cut(0) of a new file", new GlyphLines().cut(0), 0);
        Check.due("the first feed", new GlyphLines().feed(7), 4);
        Check.index("put(0, 0) in a new file", () -> new GlyphLines().put(0, 0));
        Check.due("load(false) of a new file", new GlyphLines().load(false), GlyphLines.FILE);
        Check.due("load(true) of a new file", new GlyphLines().load(true), GlyphLines.FILE);
    }

    private static void newObjectHasNoFont() {
        GlyphLines lines = new GlyphLines();
        Check.state("glyph(0)", () -> lines.glyph(0));
        Check.state("measure(0, 0)", () -> lines.measure(0, 0));
        Check.state("point(0, 0, 0)", () -> lines.point(0, 0, 0));
        Check.state("kerning(0, 0)", () -> lines.kerning(0, 0));
        Check.state("paint(4)", () -> lines.paint(4));
    }

    private static void newObjectHasNoText() {
        Check.due("wipe() of a new object", new GlyphLines().wipe(), 0);
        Check.due("paint(24) of no text", FontFile.of(new byte[1][0]).font().paint(24), 0);
    }

    private static void newPictureIsEmpty() {
        GlyphLines lines = new GlyphLines();
        for (int r = 0; r < 24; r++) {
            Check.due("row(" + r + ") of a new object", lines.row(r), 0);
        }
    }

    private static void feedPutsTheHighestByteFirst() {
        GlyphLines lines = new GlyphLines();
        Check.due("feed", lines.feed(0x01020304), 4);
        Check.due("feed", lines.feed(0xFF80007F), 8);
        Check.due("feed", lines.feed(LEAST), 12);
        Check.due("feed", lines.feed(GREATEST), 16);
        bytes("fed", lines, 1, 2, 3, 4, 255, 128, 0, 127, 128, 0, 0, 0, 127, 255, 255, 255);
    }

    private static void feedUpToTheLimit() {
        Check.due("feed behind 1195", full(1195).feed(-1), 1199);
        Check.due("feed behind 1196", full(1196).feed(-1), 1200);
        for (int size = 1197; size <= 1200; size++) {
            GlyphLines lines = full(size);
            Check.due("feed behind " + size, lines.feed(-1), GlyphLines.NONE);
            Check.due("feed behind " + size + " again", lines.feed(-1), GlyphLines.NONE);
            Check.due("at(1195)", lines.at(1195), 1196 & 255);
            Check.due("the last of " + size, lines.at(size - 1), new int[] {0, 0, 4, 1200 & 255}[size - 1197]);
            Check.due("behind the last of " + size, lines.at(size), GlyphLines.NONE);
            Check.due("at(1200)", lines.at(1200), GlyphLines.NONE);
            Check.due("cut(0)", lines.cut(0), size);
        }
    }

    private static void feedBehindAnOddCut() {
        GlyphLines lines = fed(0x01020304);
        Check.due("cut(3)", lines.cut(3), 1);
        Check.due("feed behind 3 bytes", lines.feed(0x05060708), 7);
        bytes("behind 3 bytes", lines, 1, 2, 3, 5, 6, 7, 8);
    }

    private static void feedAfterItWasRefused() {
        GlyphLines lines = full(1197);
        Check.due("feed behind 1197", lines.feed(-1), GlyphLines.NONE);
        Check.due("cut(1196)", lines.cut(1196), 1);
        Check.due("feed behind 1196", lines.feed(0x0A0B0C0D), 1200);
        for (int i = 0; i < 4; i++) {
            Check.due("at(" + (1196 + i) + ")", lines.at(1196 + i), 10 + i);
        }
    }

    private static void putAnswersWhatWas() {
        GlyphLines lines = fed(0x01020304);
        Check.due("put(1, 255)", lines.put(1, 255), 2);
        Check.due("put(1, 0)", lines.put(1, 0), 255);
        Check.due("put(1, 128)", lines.put(1, 128), 0);
        Check.due("put(1, 128)", lines.put(1, 128), 128);
        bytes("put", lines, 1, 128, 3, 4);
    }

    private static void putWhereThereIsNoByte() {
        GlyphLines lines = fed(0x01020304);
        Check.due("put(0, 8)", lines.put(0, 8), 1);
        Check.due("put(3, 9)", lines.put(3, 9), 4);
        for (int i : new int[] {-1, 4, 1199, 1200, LEAST, GREATEST}) {
            Check.index("put(" + i + ", 0)", () -> lines.put(i, 0));
        }
        bytes("put at both ends", lines, 8, 2, 3, 9);
        lines.cut(3);
        Check.index("put(3, 0) of 3 bytes", () -> lines.put(3, 0));
        Check.due("put(2, 0) of 3 bytes", lines.put(2, 0), 3);
    }

    private static void putWhatIsNoByte() {
        GlyphLines lines = fed(0x01020304);
        for (int b : new int[] {-1, 256, -128, -255, LEAST, GREATEST}) {
            Check.argument("put(2, " + b + ")", () -> lines.put(2, b));
        }
        bytes("as before", lines, 1, 2, 3, 4);
        Check.due("put(2, 0)", lines.put(2, 0), 3);
        Check.due("put(2, 255)", lines.put(2, 255), 0);
        bytes("put", lines, 1, 2, 255, 4);
    }

    private static void putThrowsTheFirstException() {
        GlyphLines lines = fed(0x01020304);
        Check.index("put(4, 256)", () -> lines.put(4, 256));
        Check.index("put(4, -1)", () -> lines.put(4, -1));
        Check.index("put(-1, 256)", () -> lines.put(-1, 256));
        Check.index("put(-1, -1)", () -> lines.put(-1, -1));
        bytes("as before", lines, 1, 2, 3, 4);
    }

    private static void putInAFullFile() {
        GlyphLines lines = full(1200);
        Check.due("put(1199, 1)", lines.put(1199, 1), 1200 & 255);
        Check.index("put(1200, 1)", () -> lines.put(1200, 1));
        Check.due("at(1199)", lines.at(1199), 1);
    }

    private static void atBothEnds() {
        GlyphLines lines = fed(0x0A0B0C0D);
        Check.due("at(0)", lines.at(0), 10);
        Check.due("at(3)", lines.at(3), 13);
        for (int i : new int[] {-1, 4, 1199, 1200, LEAST, GREATEST}) {
            Check.due("at(" + i + ")", lines.at(i), GlyphLines.NONE);
        }
    }

    private static void cutLeavesTheFirst() {
        GlyphLines lines = fed(0x01020304, 0x05060708);
        Check.due("cut(8) of 8", lines.cut(8), 0);
        bytes("all of 8", lines, 1, 2, 3, 4, 5, 6, 7, 8);
        Check.due("cut(7) of 8", lines.cut(7), 1);
        bytes("7 of 8", lines, 1, 2, 3, 4, 5, 6, 7);
        Check.due("cut(1) of 7", lines.cut(1), 6);
        bytes("1 of 7", lines, 1);
        Check.due("cut(0) of 1", lines.cut(0), 1);
        bytes("none", lines);
        Check.due("cut(0) of none", lines.cut(0), 0);
    }

    private static void cutOfMoreThanThereIs() {
        GlyphLines lines = fed(0x01020304);
        Check.due("cut(5) of 4", lines.cut(5), 0);
        Check.due("cut(1201) of 4", lines.cut(1201), 0);
        Check.due("cut(the greatest) of 4", lines.cut(GREATEST), 0);
        bytes("as before", lines, 1, 2, 3, 4);
        Check.due("cut(the greatest) of none", new GlyphLines().cut(GREATEST), 0);
    }

    private static void cutBelowZero() {
        GlyphLines lines = fed(0x01020304);
        Check.argument("cut(-1)", () -> lines.cut(-1));
        Check.argument("cut(the least)", () -> lines.cut(LEAST));
        Check.argument("cut(-1) of none", () -> new GlyphLines().cut(-1));
        bytes("as before", lines, 1, 2, 3, 4);
        Check.due("cut(0)", lines.cut(0), 4);
    }

    private static void cutBytesAreGone() {
        GlyphLines lines = fed(0x01020304, 0x05060708);
        lines.cut(2);
        Check.due("cut(8) does not bring them back", lines.cut(8), 0);
        bytes("2 of 8", lines, 1, 2);
        lines.feed(0);
        bytes("and 4 more", lines, 1, 2, 0, 0, 0, 0);
        byte[] font = FontFile.of(new byte[1][0]).done();
        GlyphLines whole = new GlyphLines();
        FontFile.into(whole, font);
        // maxp is the last table, of 6 bytes, and two zeros stand behind it.
        Check.due("two bytes too many are cut", whole.cut(font.length - 2), 2);
        Check.due("load without what no table needs", whole.load(true), 1);
        Check.due("one byte of maxp is cut", whole.cut(font.length - 3), 1);
        Check.due("load without it", whole.load(true), GlyphLines.FILE);
    }

    private static void lastOf512Calls() {
        GlyphLines lines = fed(0);
        for (int call = 2; call < 512; call++) {
            Check.due("put, call " + call, lines.put(call % 4, call & 255), call < 6 ? 0 : (call - 4) & 255);
        }
        Check.due("at(3), call 512", lines.at(3), 511 & 255);
    }
}
