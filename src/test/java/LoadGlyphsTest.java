import java.util.Arrays;

/** Promise 6: what load says of GLYPHS. */
public final class LoadGlyphsTest {
    private static final int FOLLOWS = 1 << 5;
    private static final byte[] NO_BYTES = {};
    private static final byte[] BOX = FontFile.simple(FontFile.box(0, 0, 10, 20));

    private LoadGlyphsTest() {
    }

    public static void main(String[] args) {
        kinds();
        contourEnds();
        flagsAndCoordinates();
        rangeOfCoordinates();
        parts();
        partFlags();
        depth();
        manyPoints();
        rangeOfParts();
        Check.end();
    }

    private static void right(String what, byte[]... glyphs) {
        Check.due(what, FontFile.of(glyphs).loaded(), glyphs.length);
    }

    private static void wrong(String what, byte[]... glyphs) {
        Check.due(what, FontFile.of(glyphs).loaded(), GlyphLines.GLYPHS);
    }

    /** No byte less would do. */
    private static void rightOnlyWhole(String what, byte[] glyph) {
        // The glyph behind it shows that its bytes are not read as those of this one.
        byte[] behind = new Bytes().u16(0).zeros(40).done();
        right(what, glyph, behind);
        for (int size = 1; size < glyph.length; size++) {
            wrong(what + ", only " + size + " bytes", Arrays.copyOf(glyph, size), behind);
        }
    }

    private static Bytes simpleHead(int... ends) {
        return new Bytes().u16(ends.length).zeros(8).u16(ends);
    }

    private static void kinds() {
        right("no bytes", NO_BYTES);
        rightOnlyWhole("no contours", new Bytes().u16(0).zeros(10).done());
        right("no contours, with bytes to pass over that are not there", simpleHead().u16(500).done());
        wrong("5 contours", FontFile.simple(FontFile.lines(0, 0), FontFile.lines(0, 0), FontFile.lines(0, 0),
                FontFile.lines(0, 0), FontFile.lines(0, 0)));
        right("4 contours", FontFile.simple(FontFile.lines(0, 0), FontFile.lines(0, 0), FontFile.lines(0, 0),
                FontFile.lines(0, 0)));
        byte[] other = BOX.clone();
        other[0] = -1;
        other[1] = -2;
        wrong("C is -2", other);
        other[0] = -128;
        other[1] = 1;
        wrong("C is -32767", other);
        wrong("one of many is wrong", BOX, NO_BYTES, other, BOX);
        wrong("the last is wrong", BOX, other);
    }

    private static void contourEnds() {
        // Flag 0x30: the coordinate stays as it was, and no byte is read for it.
        right("ends 0, 1", simpleHead(0, 1).u16(0).u8(0x30, 0x30).done());
        wrong("ends stay", simpleHead(0, 0).u16(0).u8(0x30, 0x30).done());
        wrong("ends fall", simpleHead(1, 0).u16(0).u8(0x30, 0x30).done());
        right("24 points", simpleHead(23).u16(0).u8(0x38, 23).done());
        wrong("25 points", simpleHead(24).u16(0).u8(0x38, 24).done());
        right("24 points in 2 contours", simpleHead(3, 23).u16(0).u8(0x38, 23).done());
        wrong("25 points in 2 contours", simpleHead(3, 24).u16(0).u8(0x38, 24).done());
        wrong("65536 points", simpleHead(65535).u16(0).u8(0x38, 255).done());
    }

    private static void flagsAndCoordinates() {
        rightOnlyWhole("S16s", simpleHead(1).u16(0).u8(0, 0).u16(1, 2, 3, 4).done());
        rightOnlyWhole("U8s", simpleHead(1).u16(0).u8(6, 6, 1, 2, 3, 4).done());
        rightOnlyWhole("neither", simpleHead(1).u16(0).u8(0x30, 0x30).done());
        rightOnlyWhole("bytes that are passed over", simpleHead(0).u16(3).u8(9, 9, 9, 0).u16(1, 2).done());
        rightOnlyWhole("a flag for 2 points", simpleHead(1).u16(0).u8(0x38, 1).done());
        rightOnlyWhole("a flag for no other point", simpleHead(0).u16(0).u8(0x38, 0).done());
        right("a flag for more points than there are", simpleHead(1).u16(0).u8(0x38, 255).done());
        right("more bytes than need be", simpleHead(0).u16(0).u8(0x30, 1, 2, 3).done());
        wrong("bytes that are passed over up to the end", simpleHead(0).u16(1).u8(0x30).done());
        wrong("65535 bytes that are passed over", simpleHead(0).u16(65535).u8(0x30).done());
    }

    private static void rangeOfCoordinates() {
        right("4095", FontFile.simple(FontFile.lines(4095, 4095)));
        right("-4096", FontFile.simple(FontFile.lines(-4096, -4096)));
        wrong("x 4096", FontFile.simple(FontFile.lines(4096, 0)));
        wrong("y 4096", FontFile.simple(FontFile.lines(0, 4096)));
        wrong("x -4097", FontFile.simple(FontFile.lines(-4097, 0)));
        wrong("y -4097", FontFile.simple(FontFile.lines(0, -4097)));
        wrong("x out and in again", FontFile.simple(FontFile.lines(4000, 0, 4096, 0, 0, 0)));
        wrong("y out and in again", FontFile.simple(FontFile.lines(0, -4000, 0, -4097, 0, 0)));
    }

    private static void parts() {
        rightOnlyWholePart("S8s", new Bytes().u16(2, 1).u8(1, 2));
        rightOnlyWholePart("S16s", new Bytes().u16(3, 1, 5, 6));
        rightOnlyWholePart("one factor", new Bytes().u16(2 | 8, 1).u8(1, 2).u16(1));
        rightOnlyWholePart("two factors", new Bytes().u16(2 | 64, 1).u8(1, 2).u16(1, 2));
        rightOnlyWholePart("four factors", new Bytes().u16(2 | 128, 1).u8(1, 2).u16(1, 2, 3, 4));
        rightOnlyWholePart("two parts", new Bytes().u16(2 | FOLLOWS, 1).u8(1, 2).u16(2, 1).u8(3, 4));
        byte[] more = FontFile.part(FOLLOWS, 1, 0, 0);
        byte[] last = FontFile.part(0, 1, 0, 0);
        byte[] dot = FontFile.simple(FontFile.lines(1, 1));
        right("4 parts", FontFile.composed(more, more, more, last), dot);
        wrong("5 parts", FontFile.composed(more, more, more, more, last), dot);
        right("what is behind the last part", FontFile.composed(more, last, new byte[7]), dot);
        wrong("glyph N", FontFile.composed(FontFile.part(0, 2, 0, 0)), dot);
        wrong("glyph 65535", FontFile.composed(FontFile.part(0, 65535, 0, 0)), dot);
        right("glyph N - 1", FontFile.composed(FontFile.part(0, 1, 0, 0)), dot);
        right("a part without bytes", FontFile.composed(FontFile.part(0, 1, 0, 0)), NO_BYTES);
        wrong("a part that is wrong", FontFile.composed(FontFile.part(0, 1, 0, 0)), new Bytes().u16(9).done());
        wrong("the second part is wrong", FontFile.composed(more, FontFile.part(0, 7, 0, 0)), dot);
    }

    private static void rightOnlyWholePart(String what, Bytes part) {
        byte[] glyph = FontFile.composed(part.done());
        right(what, glyph, BOX);
        for (int size = 1; size < glyph.length; size++) {
            wrong(what + ", only " + size + " bytes", Arrays.copyOf(glyph, size), BOX);
        }
    }

    private static void partFlags() {
        wrong("bit 1 is not set", FontFile.composed(new Bytes().u16(1, 1, 0, 0).done()), BOX);
        int[] factors = {16384, 0, 0, 16384, 0, 0, 0};
        right("bit 3", FontFile.composed(FontFile.part(8, 1, 0, 0, factors)), BOX);
        right("bit 6", FontFile.composed(FontFile.part(64, 1, 0, 0, factors)), BOX);
        right("bit 7", FontFile.composed(FontFile.part(128, 1, 0, 0, factors)), BOX);
        wrong("bits 3, 6", FontFile.composed(FontFile.part(8 | 64, 1, 0, 0, factors)), BOX);
        wrong("bits 3, 7", FontFile.composed(FontFile.part(8 | 128, 1, 0, 0, factors)), BOX);
        wrong("bits 6, 7", FontFile.composed(FontFile.part(64 | 128, 1, 0, 0, factors)), BOX);
        wrong("bits 3, 6, 7", FontFile.composed(FontFile.part(8 | 64 | 128, 1, 0, 0, factors)), BOX);
        right("other bits", FontFile.composed(FontFile.part(0xFF14, 1, 0, 0)), BOX);
    }

    private static byte[] partOnly(int glyph) {
        return FontFile.composed(FontFile.part(0, glyph, 0, 0));
    }

    private static void depth() {
        right("3 deep", partOnly(1), partOnly(2), BOX);
        right("3 deep, rising", BOX, partOnly(0), partOnly(1));
        wrong("4 deep", partOnly(1), partOnly(2), partOnly(3), BOX);
        wrong("4 deep, rising", BOX, partOnly(0), partOnly(1), partOnly(2));
        right("3 deep, without bytes", partOnly(1), partOnly(2), NO_BYTES);
        wrong("4 deep, without bytes", partOnly(1), partOnly(2), partOnly(3), NO_BYTES);
        wrong("itself", partOnly(0));
        wrong("one another", partOnly(1), partOnly(0));
        wrong("itself, as the second part",
                FontFile.composed(FontFile.part(FOLLOWS, 1, 0, 0), FontFile.part(0, 0, 0, 0)), NO_BYTES);
    }

    private static void manyPoints() {
        byte[] most = new Bytes().u16(1).zeros(8).u16(23, 0).u8(0x38, 23).done();
        byte[] sixteen = new Bytes().u16(1).zeros(8).u16(15, 0).u8(0x38, 15).done();
        byte[] seventeen = new Bytes().u16(1).zeros(8).u16(16, 0).u8(0x38, 16).done();
        right("64 points", most, sixteen, FontFile.composed(FontFile.part(FOLLOWS, 0, 0, 0),
                FontFile.part(FOLLOWS, 0, 0, 0), FontFile.part(0, 1, 0, 0)));
        wrong("65 points", most, seventeen, FontFile.composed(FontFile.part(FOLLOWS, 0, 0, 0),
                FontFile.part(FOLLOWS, 0, 0, 0), FontFile.part(0, 1, 0, 0)));
        right("64 points in one another", sixteen, partTwice(0), partTwice(1));
        wrong("68 points in one another", seventeen, partTwice(0), partTwice(1));
        byte[] full = FontFile.part(FOLLOWS, 0, 0, 0);
        right("64 points, and a part without", sixteen, NO_BYTES,
                FontFile.composed(full, full, full, FontFile.part(0, 0, 0, 0)));
        byte[] fourParts = FontFile.composed(full, full, full, FontFile.part(0, 1, 0, 0));
        wrong("more than 64 in 3 of 4 parts", most, NO_BYTES, fourParts);
    }

    private static byte[] partTwice(int glyph) {
        return FontFile.composed(FontFile.part(FOLLOWS, glyph, 0, 0), FontFile.part(0, glyph, 0, 0));
    }

    private static void rangeOfParts() {
        byte[] dot = FontFile.simple(FontFile.lines(95, -96));
        right("x 4095", FontFile.composed(FontFile.part(0, 1, 4000, 0)), dot);
        wrong("x 4096", FontFile.composed(FontFile.part(0, 1, 4001, 0)), dot);
        right("x -4096", FontFile.composed(FontFile.part(0, 1, -4191, 0)), dot);
        wrong("x -4097", FontFile.composed(FontFile.part(0, 1, -4192, 0)), dot);
        right("y -4096", FontFile.composed(FontFile.part(0, 1, 0, -4000)), dot);
        wrong("y -4097", FontFile.composed(FontFile.part(0, 1, 0, -4001)), dot);
        right("y 4095", FontFile.composed(FontFile.part(0, 1, 0, 4191)), dot);
        wrong("y 4096", FontFile.composed(FontFile.part(0, 1, 0, 4192)), dot);
        byte[] far = FontFile.simple(FontFile.lines(4000, 0));
        wrong("x 8000 by a factor", FontFile.composed(FontFile.part(8, 1, 0, 0, 32767)), far);
        right("and back by dx", FontFile.composed(FontFile.part(8, 1, -4000, 0, 32767)), far);
    }
}
