import java.util.Arrays;

/** Promise 6, and of the terms: GLYPHS, on both sides of each bound. */
public final class LoadGlyphsTest {
    private static final int FOLLOWS = 1 << 5;
    private static final byte[] NO_BYTES = {};
    private static final byte[] DOT = FontFile.simple(FontFile.lines(1, 1));
    private static final byte[] BOX = FontFile.simple(FontFile.box(0, 0, 10, 20));
    private static final byte[] MORE = FontFile.part(FOLLOWS, 1, 0, 0);
    private static final byte[] LAST = FontFile.part(0, 1, 0, 0);

    private LoadGlyphsTest() {
    }

    public static void main(String[] args) {
        noData();
        numberOfContours();
        everyGlyphIsLookedAt();
        bytesOfNoGlyph();
        endsRise();
        atMost24Points();
        noContours();
        bytesPassedOver();
        flagsLieInTheData();
        repeatedFlags();
        coordinatesLieInTheData();
        rangeOfCoordinates();
        atMost4Parts();
        partsLieInTheData();
        partIsAGlyphBelowN();
        bit1MustBeSet();
        atMostOneOfThreeBits();
        otherBitsOfAPart();
        depth();
        depthOfEachPart();
        atMost64Points();
        rangeOfParts();
        rangeOfPartsInParts();
        Check.end();
    }

    private static void right(String what, byte[]... glyphs) {
        Check.due(what, FontFile.of(glyphs).loaded(), glyphs.length);
    }

    private static void wrong(String what, byte[]... glyphs) {
        Check.due(what, FontFile.of(glyphs).loaded(), GlyphLines.GLYPHS);
    }

    /** No byte less would do. */
    private static void rightOnlyWhole(String what, byte[] glyph) {
        // The glyph behind it shows that its bytes are not read as those of this one.
        byte[] behind = new Bytes().u16(0).zeros(40).done();
        right(what, glyph, behind);
        right(what + ", and a byte more", Arrays.copyOf(glyph, glyph.length + 1), behind);
        for (int size = 1; size < glyph.length; size++) {
            wrong(what + ", only " + size + " bytes", Arrays.copyOf(glyph, size), behind);
        }
    }

    private static Bytes simpleHead(int... ends) {
        return new Bytes().u16(ends.length).zeros(8).u16(ends);
    }

    private static void noData() {
        right("no DATA", NO_BYTES);
        right("no DATA at all", NO_BYTES, NO_BYTES, NO_BYTES);
        wrong("1 byte of DATA", new byte[1]);
        wrong("2 bytes of DATA", new byte[2]);
        wrong("1 byte of DATA between others", BOX, new byte[1], BOX);
    }

    private static void numberOfContours() {
        for (int contours : new int[] {-32768, -32767, -256, -3, -2, 5, 6, 255, 256, 260, 32767}) {
            // Were C allowed, all the rest would be right.
            wrong("C is " + contours, new Bytes().u16(contours).zeros(8).u16(0, 1, 2, 3, 4, 5, 6, 0)
                    .zeros(60).done());
        }
        right("C is -1", FontFile.composed(LAST), DOT);
        right("C is 0", new Bytes().u16(0).zeros(10).done());
        right("C is 1", simpleHead(0).u16(0).u8(0x30).done());
        right("C is 4", simpleHead(0, 1, 2, 3).u16(0).u8(0x38, 3).done());
        wrong("C is 5", simpleHead(0, 1, 2, 3, 4).u16(0).u8(0x38, 4).done());
    }

    private static void everyGlyphIsLookedAt() {
        byte[] bad = new Bytes().u16(5).zeros(20).done();
        for (int g = 0; g < 5; g++) {
            byte[][] glyphs = {DOT, NO_BYTES, DOT, DOT, NO_BYTES};
            right("5 glyphs", glyphs);
            glyphs[g] = bad;
            wrong("glyph " + g + " of 5", glyphs);
        }
        byte[][] most = new byte[16][0];
        most[15] = bad;
        wrong("glyph 15 of 16", most);
    }

    private static void bytesOfNoGlyph() {
        // As glyphs they would be wrong, but no numbers of loca enclose them.
        byte[] odd = {9, 9, 9, 9, 9, 9};
        int size = DOT.length;
        FontFile font = FontFile.of(DOT).table("glyf", new Bytes().all(odd).all(DOT).all(odd).done());
        font.table("loca", new Bytes().u32(6, 6 + size).done());
        Check.due("in front of glyph 0 and behind the last one", font.loaded(), 1);
        font.table("loca", new Bytes().u32(5, 6 + size).done());
        Check.due("glyph 0 from one byte before on", font.loaded(), GlyphLines.GLYPHS);
        font.table("loca", new Bytes().u32(6, 5 + size).done());
        Check.due("glyph 0 up to one byte before", font.loaded(), GlyphLines.GLYPHS);
    }

    private static void endsRise() {
        // Flag 0x30: the coordinate stays as it was, and no byte is read for it; 0x38: the same, repeated.
        right("0: one point", simpleHead(0).u16(0).u8(0x30).done());
        right("0, 1: one point each", simpleHead(0, 1).u16(0).u8(0x38, 9).done());
        wrong("0, 0: the second has none", simpleHead(0, 0).u16(0).u8(0x38, 9).done());
        wrong("1, 0: they fall", simpleHead(1, 0).u16(0).u8(0x38, 9).done());
        right("5, 6: one point", simpleHead(5, 6).u16(0).u8(0x38, 9).done());
        wrong("5, 5: no point", simpleHead(5, 5).u16(0).u8(0x38, 9).done());
        right("0, 1, 2, 3", simpleHead(0, 1, 2, 3).u16(0).u8(0x38, 9).done());
        wrong("0, 1, 2, 2", simpleHead(0, 1, 2, 2).u16(0).u8(0x38, 9).done());
        wrong("0, 1, 1, 2", simpleHead(0, 1, 1, 2).u16(0).u8(0x38, 9).done());
        wrong("0, 0, 1, 2", simpleHead(0, 0, 1, 2).u16(0).u8(0x38, 9).done());
        wrong("3, 2, 4, 5", simpleHead(3, 2, 4, 5).u16(0).u8(0x38, 9).done());
        wrong("65535", simpleHead(65535).u16(0).u8(0x38, 255).done());
        wrong("65535, 0", simpleHead(65535, 0).u16(0).u8(0x38, 255).done());
    }

    private static void atMost24Points() {
        right("23 points", simpleHead(22).u16(0).u8(0x38, 22).done());
        right("24 points", simpleHead(23).u16(0).u8(0x38, 23).done());
        wrong("25 points", simpleHead(24).u16(0).u8(0x38, 24).done());
        right("24 points in 2 contours", simpleHead(3, 23).u16(0).u8(0x38, 23).done());
        wrong("25 points in 2 contours", simpleHead(3, 24).u16(0).u8(0x38, 24).done());
        right("24 points in 4 contours", simpleHead(20, 21, 22, 23).u16(0).u8(0x38, 23).done());
        wrong("25 points in 4 contours", simpleHead(20, 21, 22, 24).u16(0).u8(0x38, 24).done());
        wrong("256 points", simpleHead(255).u16(0).u8(0x38, 255).done());
    }

    private static void noContours() {
        rightOnlyWhole("no contours", new Bytes().u16(0).zeros(10).done());
        right("no contours, with bytes to pass over that are not there", simpleHead().u16(500).done());
        Check.due("no contours: no points", FontFile.of(simpleHead().u16(0).u8(0x31).done()).font().measure(0, 1), 0);
    }

    private static void bytesPassedOver() {
        rightOnlyWhole("none", simpleHead(0).u16(0).u8(0).u16(1, 2).done());
        rightOnlyWhole("1", simpleHead(0).u16(1).u8(9, 0).u16(1, 2).done());
        rightOnlyWhole("3", simpleHead(0).u16(3).u8(9, 9, 9, 0).u16(1, 2).done());
        right("256", simpleHead(0).u16(256).zeros(256).u8(0x30).done());
        wrong("256 but one", simpleHead(0).u16(256).zeros(255).u8(0x30).done());
        wrong("up to the end", simpleHead(0).u16(1).u8(0x30).done());
        wrong("beyond the end", simpleHead(0).u16(2).u8(0x30).done());
        wrong("65535", simpleHead(0).u16(65535).u8(0x30).done());
    }

    private static void flagsLieInTheData() {
        rightOnlyWhole("a flag for each of 2 points", simpleHead(1).u16(0).u8(0x30, 0x30).done());
        rightOnlyWhole("a flag for 2 points", simpleHead(1).u16(0).u8(0x38, 1).done());
        rightOnlyWhole("a flag for no other point", simpleHead(0).u16(0).u8(0x38, 0).done());
        rightOnlyWhole("a flag for 2, and one for 1", simpleHead(2).u16(0).u8(0x38, 1, 0x30).done());
    }

    private static void repeatedFlags() {
        right("for all points but one, and that one", simpleHead(2).u16(0).u8(0x38, 1, 0x30).done());
        wrong("for all points but one", simpleHead(2).u16(0).u8(0x38, 1).done());
        right("for all points", simpleHead(2).u16(0).u8(0x38, 2).done());
        // It holds for no more points than there are, so what is behind it belongs to the coordinates.
        right("for one point more than there are", simpleHead(2).u16(0).u8(0x38, 3).done());
        right("for 255 points more", simpleHead(0).u16(0).u8(0x38, 255).done());
        rightOnlyWhole("for more than there are, then x and y", simpleHead(1).u16(0)
                .u8(0x0E, 9, 1, 2, 3, 4).done());
        right("for all of 24", simpleHead(23).u16(0).u8(0x38, 23).done());
        wrong("for 23 of 24", simpleHead(23).u16(0).u8(0x38, 22).done());
    }

    private static void coordinatesLieInTheData() {
        rightOnlyWhole("S16s", simpleHead(1).u16(0).u8(0, 0).u16(1, 2, 3, 4).done());
        rightOnlyWhole("U8s up", simpleHead(1).u16(0).u8(0x36, 0x36, 1, 2, 3, 4).done());
        rightOnlyWhole("U8s down", simpleHead(1).u16(0).u8(6, 6, 1, 2, 3, 4).done());
        rightOnlyWhole("neither", simpleHead(1).u16(0).u8(0x30, 0x30).done());
        rightOnlyWhole("x alone, S16", simpleHead(0).u16(0).u8(0x20).u16(1).done());
        rightOnlyWhole("x alone, U8", simpleHead(0).u16(0).u8(0x22, 1).done());
        rightOnlyWhole("y alone, S16", simpleHead(0).u16(0).u8(0x10).u16(1).done());
        rightOnlyWhole("y alone, U8", simpleHead(0).u16(0).u8(0x14, 1).done());
    }

    private static void rangeOfCoordinates() {
        right("4095", FontFile.simple(FontFile.lines(4095, 4095)));
        wrong("x 4096", FontFile.simple(FontFile.lines(4096, 0)));
        wrong("y 4096", FontFile.simple(FontFile.lines(0, 4096)));
        right("-4096", FontFile.simple(FontFile.lines(-4096, -4096)));
        wrong("x -4097", FontFile.simple(FontFile.lines(-4097, 0)));
        wrong("y -4097", FontFile.simple(FontFile.lines(0, -4097)));
        wrong("x 32767", FontFile.simple(FontFile.lines(32767, 0)));
        wrong("y -32768", FontFile.simple(FontFile.lines(0, -32768)));
        right("from one end to the other", FontFile.simple(FontFile.lines(-4096, 4095, 4095, -4096)));
        wrong("x out and in again", FontFile.simple(FontFile.lines(4000, 0, 4096, 0, 0, 0)));
        wrong("y out and in again", FontFile.simple(FontFile.lines(0, -4000, 0, -4097, 0, 0)));
        // 3840 and 255 by a U8, then one more.
        right("x 4095 by a U8", simpleHead(1).u16(0).u8(0x20, 0x32).u16(3840).u8(255).done());
        wrong("x 4096 by a U8", simpleHead(1).u16(0).u8(0x20, 0x32).u16(3841).u8(255).done());
        right("y -4096 by a U8", simpleHead(1).u16(0).u8(0x10, 0x14).u16(-3841).u8(255).done());
        wrong("y -4097 by a U8", simpleHead(1).u16(0).u8(0x10, 0x14).u16(-3842).u8(255).done());
    }

    private static void atMost4Parts() {
        right("1 part", FontFile.composed(LAST), DOT);
        right("4 parts", FontFile.composed(MORE, MORE, MORE, LAST), DOT);
        wrong("5 parts", FontFile.composed(MORE, MORE, MORE, MORE, LAST), DOT);
        wrong("4 parts, and one that follows is not there", FontFile.composed(MORE, MORE, MORE, MORE), DOT);
        wrong("1 part, and one that follows is not there", FontFile.composed(MORE), DOT);
        right("5 parts, but none follows the fourth", FontFile.composed(MORE, MORE, MORE, LAST, LAST), DOT);
        right("what is behind the last part", FontFile.composed(MORE, LAST, new byte[7]), DOT);
    }

    private static void partsLieInTheData() {
        rightOnlyWholePart("S8s", new Bytes().u16(2, 1).u8(1, 2));
        rightOnlyWholePart("S16s", new Bytes().u16(3, 1, 5, 6));
        rightOnlyWholePart("one factor", new Bytes().u16(2 | 8, 1).u8(1, 2).u16(1));
        rightOnlyWholePart("two factors", new Bytes().u16(2 | 64, 1).u8(1, 2).u16(1, 2));
        rightOnlyWholePart("four factors", new Bytes().u16(2 | 128, 1).u8(1, 2).u16(1, 2, 3, 4));
        rightOnlyWholePart("S16s and four factors", new Bytes().u16(3 | 128, 1, 5, 6, 1, 2, 3, 4));
        rightOnlyWholePart("two parts", new Bytes().u16(2 | FOLLOWS, 1).u8(1, 2).u16(2, 1).u8(3, 4));
        wrong("no part", FontFile.composed(), BOX);
    }

    private static void rightOnlyWholePart(String what, Bytes part) {
        byte[] glyph = FontFile.composed(part.done());
        right(what, glyph, BOX);
        right(what + ", and a byte more", Arrays.copyOf(glyph, glyph.length + 1), BOX);
        for (int size = 1; size < glyph.length; size++) {
            wrong(what + ", only " + size + " bytes", Arrays.copyOf(glyph, size), BOX);
        }
    }

    private static void partIsAGlyphBelowN() {
        right("glyph N - 1", FontFile.composed(FontFile.part(0, 1, 0, 0)), DOT);
        wrong("glyph N", FontFile.composed(FontFile.part(0, 2, 0, 0)), DOT);
        wrong("glyph 32768", FontFile.composed(FontFile.part(0, 32768, 0, 0)), DOT);
        wrong("glyph 65535", FontFile.composed(FontFile.part(0, 65535, 0, 0)), DOT);
        wrong("glyph 256", FontFile.composed(FontFile.part(0, 256, 0, 0)), DOT);
        byte[][] most = new byte[16][0];
        most[3] = FontFile.composed(FontFile.part(0, 15, 0, 0));
        right("glyph 15 of 16", most);
        most[3] = FontFile.composed(FontFile.part(0, 16, 0, 0));
        wrong("glyph 16 of 16", most);
        right("a part without bytes", FontFile.composed(LAST), NO_BYTES);
        wrong("the second part is glyph N", FontFile.composed(MORE, FontFile.part(0, 2, 0, 0)), DOT);
        wrong("a part that is wrong", FontFile.composed(LAST), new Bytes().u16(9).done());
    }

    private static void bit1MustBeSet() {
        right("bit 1 is set", FontFile.composed(new Bytes().u16(2, 1).u8(0, 0).done()), BOX);
        wrong("bit 1 is not set", FontFile.composed(new Bytes().u16(0, 1).u8(0, 0).done()), BOX);
        wrong("bit 0 alone is set", FontFile.composed(new Bytes().u16(1, 1, 0, 0).done()), BOX);
        wrong("all bits but 1, 3, 5, 6", FontFile.composed(new Bytes().u16(0xFF95, 1, 0, 0, 0, 0, 0, 0).done()), BOX);
        wrong("bit 1 of the second part is not set", FontFile.composed(MORE, new Bytes().u16(1, 1, 0, 0).done()), BOX);
    }

    private static void atMostOneOfThreeBits() {
        int[] factors = {16384, 0, 0, 16384, 0, 0, 0};
        right("none", FontFile.composed(FontFile.part(0, 1, 0, 0, factors)), BOX);
        right("bit 3", FontFile.composed(FontFile.part(8, 1, 0, 0, factors)), BOX);
        right("bit 6", FontFile.composed(FontFile.part(64, 1, 0, 0, factors)), BOX);
        right("bit 7", FontFile.composed(FontFile.part(128, 1, 0, 0, factors)), BOX);
        wrong("bits 3, 6", FontFile.composed(FontFile.part(8 | 64, 1, 0, 0, factors)), BOX);
        wrong("bits 3, 7", FontFile.composed(FontFile.part(8 | 128, 1, 0, 0, factors)), BOX);
        wrong("bits 6, 7", FontFile.composed(FontFile.part(64 | 128, 1, 0, 0, factors)), BOX);
        wrong("bits 3, 6, 7", FontFile.composed(FontFile.part(8 | 64 | 128, 1, 0, 0, factors)), BOX);
    }

    private static void otherBitsOfAPart() {
        for (int bit : new int[] {2, 4, 8, 9, 10, 11, 12, 13, 14, 15}) {
            right("bit " + bit, FontFile.composed(FontFile.part(1 << bit, 1, 0, 0)), BOX);
        }
    }

    private static byte[] partOnly(int glyph) {
        return FontFile.composed(FontFile.part(0, glyph, 0, 0));
    }

    private static void depth() {
        right("2 deep", partOnly(1), BOX);
        right("3 deep", partOnly(1), partOnly(2), BOX);
        wrong("4 deep", partOnly(1), partOnly(2), partOnly(3), BOX);
        right("3 deep, rising", BOX, partOnly(0), partOnly(1));
        wrong("4 deep, rising", BOX, partOnly(0), partOnly(1), partOnly(2));
        right("3 deep, without bytes", partOnly(1), partOnly(2), NO_BYTES);
        wrong("4 deep, without bytes", partOnly(1), partOnly(2), partOnly(3), NO_BYTES);
        wrong("itself", partOnly(0));
        wrong("one another", partOnly(1), partOnly(0));
        wrong("three in a ring", partOnly(1), partOnly(2), partOnly(0));
    }

    private static void depthOfEachPart() {
        for (int k = 0; k < 4; k++) {
            right("part " + k + " is 2 deep", DOT, partOnly(0), partOnly(1), fourParts(k, 1));
            wrong("part " + k + " is 3 deep", DOT, partOnly(0), partOnly(1), fourParts(k, 2));
            wrong("part " + k + " is the glyph itself", DOT, partOnly(0), NO_BYTES, fourParts(k, 3));
        }
    }

    /** All are glyph 0, but for one. */
    private static byte[] fourParts(int which, int glyph) {
        byte[][] parts = new byte[4][];
        for (int k = 0; k < 4; k++) {
            parts[k] = FontFile.part(k < 3 ? FOLLOWS : 0, k == which ? glyph : 0, 0, 0);
        }
        return FontFile.composed(parts);
    }

    private static byte[] dots(int many) {
        return simpleHead(many - 1).u16(0).u8(0x38, many - 1).done();
    }

    private static byte[] partTwice(int glyph) {
        return FontFile.composed(FontFile.part(FOLLOWS, glyph, 0, 0), FontFile.part(0, glyph, 0, 0));
    }

    private static void atMost64Points() {
        byte[] both = FontFile.composed(FontFile.part(FOLLOWS, 0, 0, 0),
                FontFile.part(FOLLOWS, 0, 0, 0), FontFile.part(0, 1, 0, 0));
        right("63 points", dots(24), dots(15), both);
        right("64 points", dots(24), dots(16), both);
        wrong("65 points", dots(24), dots(17), both);
        right("64 points in 4 parts", dots(16), fourParts(0, 0));
        wrong("65 points in 4 parts, the last one too many", dots(16), dots(17), fourParts(3, 1));
        wrong("65 points in 4 parts, the first one too many", dots(16), dots(17), fourParts(0, 1));
        wrong("72 points in the first 3 of 4 parts", dots(24), NO_BYTES, fourParts(3, 1));
        right("64 points in one another", dots(16), partTwice(0), partTwice(1));
        wrong("68 points in one another", dots(17), partTwice(0), partTwice(1));
        right("64 points, then a part without", dots(24), dots(16), NO_BYTES, FontFile.composed(
                FontFile.part(FOLLOWS, 0, 0, 0), FontFile.part(FOLLOWS, 0, 0, 0),
                FontFile.part(FOLLOWS, 1, 0, 0), FontFile.part(0, 2, 0, 0)));
        right("two glyphs of 64 points each", dots(16), fourParts(0, 0), fourParts(0, 0));
    }

    private static void rangeOfParts() {
        byte[] dot = FontFile.simple(FontFile.lines(95, -96));
        right("x 4095", FontFile.composed(FontFile.part(0, 1, 4000, 0)), dot);
        wrong("x 4096", FontFile.composed(FontFile.part(0, 1, 4001, 0)), dot);
        right("x -4096", FontFile.composed(FontFile.part(0, 1, -4191, 0)), dot);
        wrong("x -4097", FontFile.composed(FontFile.part(0, 1, -4192, 0)), dot);
        right("y -4096", FontFile.composed(FontFile.part(0, 1, 0, -4000)), dot);
        wrong("y -4097", FontFile.composed(FontFile.part(0, 1, 0, -4001)), dot);
        right("y 4095", FontFile.composed(FontFile.part(0, 1, 0, 4191)), dot);
        wrong("y 4096", FontFile.composed(FontFile.part(0, 1, 0, 4192)), dot);
        wrong("dx 32767", FontFile.composed(FontFile.part(0, 1, 32767, 0)), dot);
        wrong("dy -32768", FontFile.composed(FontFile.part(0, 1, 0, -32768)), dot);
        right("dx 32767 of no points", FontFile.composed(FontFile.part(0, 1, 32767, -32768)), NO_BYTES);
        byte[] far = FontFile.simple(FontFile.lines(4000, 0));
        wrong("x 8000 by a factor", FontFile.composed(FontFile.part(8, 1, 0, 0, 32767)), far);
        right("and back by dx", FontFile.composed(FontFile.part(8, 1, -4000, 0, 32767)), far);
    }

    private static void rangeOfPartsInParts() {
        byte[] dot = FontFile.simple(FontFile.lines(95, 0));
        byte[] out = FontFile.composed(FontFile.part(0, 0, 4001, 0));
        byte[] in = FontFile.composed(FontFile.part(0, 0, 4000, 0));
        right("in, and back", dot, in, FontFile.composed(FontFile.part(0, 1, -100, 0)));
        wrong("out, and back", dot, out, FontFile.composed(FontFile.part(0, 1, -100, 0)));
        wrong("in, and out", dot, in, FontFile.composed(FontFile.part(0, 1, 1, 0)));
        wrong("the first part is out", dot, FontFile.composed(FontFile.part(FOLLOWS, 0, 4001, 0),
                FontFile.part(0, 0, 0, 0)));
        wrong("the last part is out", dot, FontFile.composed(FontFile.part(FOLLOWS, 0, 0, 0),
                FontFile.part(0, 0, 4001, 0)));
    }
}
