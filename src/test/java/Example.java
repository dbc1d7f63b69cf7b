/** The example of README.md, word for word. */
public final class Example {
    /** Of characters, o and 8; the second is composed of two of the first. */
    private static final int[] FONT = {
        0x00010000, 0x00080000, 0x00000000,                 // 8 tables: name, sum, place, length
        0x636D6170, 0x00B3003C, 0x0000008C, 0x00000034,     // cmap
        0x676C7966, 0x8EBB7C7C, 0x000000C0, 0x00000038,     // glyf
        0x68656164, 0x00000041, 0x000000F8, 0x00000036,     // head
        0x68686561, 0x00000003, 0x00000130, 0x00000024,     // hhea
        0x686D7478, 0x00500000, 0x00000154, 0x0000000C,     // hmtx
        0x6B65726E, 0x00040015, 0x00000160, 0x00000018,     // kern
        0x6C6F6361, 0x00000058, 0x00000178, 0x00000010,     // loca
        0x6D617870, 0x00040000, 0x00000188, 0x00000006,     // maxp
        // cmap: 8 is glyph 2, o is glyph 1
        0x00000001, 0x00030001, 0x0000000C, 0x00040028, 0x00000006, 0x00000000, 0x00000038,
        0x006FFFFF, 0x00000038, 0x006FFFFF, 0xFFCAFF92, 0x00010000, 0x00000000,
        // glyf: a ring of 2 contours, and a glyph of 2 parts
        0x00020000, 0x00000000, 0x00000003, 0x00070000, 0x30343214, 0x26323422, 0x1C161010, 0x1C1C0610,
        0xFFFF0000, 0x00000000, 0x00000022, 0x00010000, 0x00020001, 0x00180000,
        // head: EM is 64, loca has U32s
        0, 0, 0, 0, 0x00000040, 0, 0, 0, 0, 0, 0, 0, 0x00000001, 0,
        // hhea: 3 widths
        0, 0, 0, 0, 0, 0, 0, 0, 0x00000003,
        // hmtx: 16, 32, 32
        0x00100000, 0x00200000, 0x00200000,
        // kern: -2 between glyphs 1 and 2
        0x00000001, 0x00000014, 0x00010001, 0x00000000, 0x00000001, 0x0002FFFE,
        // loca: glyph 0 has no bytes
        0, 0, 0x00000020, 0x00000038,
        // maxp: 3 glyphs
        0x00010000, 0x00030000,
    };

    private Example() {
    }

    public static void main(String[] args) {
        GlyphLines lines = new GlyphLines();
        for (int word : FONT) {
            lines.feed(word);
        }
        System.out.println("glyphs: " + lines.load(true));
        System.out.println("kerning of o and 8: " + lines.kerning(lines.glyph('o'), lines.glyph('8')));
        lines.type('o');
        lines.type('8');
        lines.type('o');
        System.out.println("pen: " + lines.paint(20) + " / 64 pixels");
        for (int r = 0; r < 16; r++) {
            StringBuilder pixels = new StringBuilder();
            for (int x = 0; x < 28; x++) {
                pixels.append((lines.row(r) >> x & 1) != 0 ? '#' : '.');
            }
            System.out.println(pixels);
        }
    }
}
