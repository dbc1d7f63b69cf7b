import java.util.Arrays;

/** A font file that is fed in bytes, the font found in it, and a line of text painted from it. */
public final class GlyphLines {
    public static final int NONE = -1;
    public static final int FILE = -1;
    public static final int SUMS = -2;
    public static final int TABLES = -3;
    public static final int FORMS = -4;
    public static final int GLYPHS = -5;

    private static final int MOST_BYTES = 1200;
    private static final int MOST_CHARACTERS = 12;
    private static final int LAST_CHARACTER = 65535;
    private static final int LEAST_PPEM = 4;
    private static final int MOST_PPEM = 24;

    private final int[] file = new int[MOST_BYTES];
    private int fileSize = 0;
    // Two fonts take turns: a load that fails must leave the other one as it was.
    private Font font = new Font();
    private Font spare = new Font();
    private boolean hasFont = false;
    private final Outline outline = new Outline();
    private final Picture picture = new Picture();
    private final Brush brush = new Brush(picture, outline);
    private final int[] text = new int[MOST_CHARACTERS];
    private int textSize = 0;

    public GlyphLines() {
    }

    public int feed(int word) {
        if (fileSize + 4 > MOST_BYTES) {
            return NONE;
        }
        for (int shift = 24; shift >= 0; shift -= 8) {
            file[fileSize] = (word >> shift) & 255;
            fileSize++;
        }
        return fileSize;
    }

    public int put(int i, int b) throws IndexOutOfBoundsException, IllegalArgumentException {
        if (i < 0 || i >= fileSize) {
            throw new IndexOutOfBoundsException("no such byte");
        }
        if (b < 0 || b > 255) {
            throw new IllegalArgumentException("a byte is 0 .. 255");
        }
        int before = file[i];
        file[i] = b;
        return before;
    }

    public int at(int i) {
        return i >= 0 && i < fileSize ? file[i] : NONE;
    }

    public int cut(int many) throws IllegalArgumentException {
        if (many < 0) {
            throw new IllegalArgumentException("fewer than no bytes");
        }
        int left = Math.min(many, fileSize);
        int gone = fileSize - left;
        fileSize = left;
        return gone;
    }

    public int load(boolean checked) {
        int found = spare.loadFrom(file, fileSize, checked, outline);
        if (found > 0) {
            Font former = font;
            font = spare;
            spare = former;
            hasFont = true;
        }
        return found;
    }

    public int glyph(int c) throws IllegalStateException, IllegalArgumentException {
        requireFont();
        if (!isCharacter(c)) {
            throw new IllegalArgumentException("a character is 0 .. 65535");
        }
        return font.glyphOf(c);
    }

    public int measure(int glyph, int what) throws IllegalStateException, IndexOutOfBoundsException {
        requireFont();
        requireGlyph(glyph);
        if (what == 0) {
            return font.widthOf(glyph);
        }
        outline.trace(font, glyph);
        if (what == 1) {
            return outline.points;
        }
        if (what == 2) {
            return outline.contours;
        }
        throw new IndexOutOfBoundsException("no such measure");
    }

    public int point(int glyph, int i, int what) throws IllegalStateException, IndexOutOfBoundsException {
        requireFont();
        requireGlyph(glyph);
        outline.trace(font, glyph);
        if (i < 0 || i >= outline.points) {
            throw new IndexOutOfBoundsException("no such point");
        }
        switch (what) {
            case 0:
                return outline.xs[i];
            case 1:
                return outline.ys[i];
            case 2:
                return outline.isOn[i] ? 1 : 0;
            case 3:
                return outline.contourOf[i];
            default:
                throw new IndexOutOfBoundsException("a point has no such number");
        }
    }

    public int kerning(int left, int right) throws IllegalStateException, IndexOutOfBoundsException {
        requireFont();
        requireGlyph(left);
        requireGlyph(right);
        return font.kerningOf(left, right);
    }

    public boolean type(int c) {
        if (!isCharacter(c) || textSize >= MOST_CHARACTERS) {
            return false;
        }
        text[textSize] = c;
        textSize++;
        return true;
    }

    public int wipe() {
        int had = textSize;
        textSize = 0;
        return had;
    }

    public int paint(int ppem) throws IllegalStateException, IllegalArgumentException {
        requireFont();
        if (ppem < LEAST_PPEM || ppem > MOST_PPEM) {
            throw new IllegalArgumentException("ppem is 4 .. 24");
        }
        picture.clear();
        brush.begin(font, ppem);
        for (int i = 0; i < textSize; i++) {
            brush.paintCharacter(font, text[i]);
        }
        return brush.pen;
    }

    public long row(int r) throws IndexOutOfBoundsException {
        if (r < 0 || r >= Picture.HEIGHT) {
            throw new IndexOutOfBoundsException("no such row");
        }
        return picture.rows[r];
    }

    private void requireFont() {
        if (!hasFont) {
            throw new IllegalStateException("there is no font");
        }
    }

    private void requireGlyph(int glyph) {
        if (glyph < 0 || glyph >= font.glyphs) {
            throw new IndexOutOfBoundsException("no such glyph");
        }
    }

    private static boolean isCharacter(int c) {
        return c >= 0 && c <= LAST_CHARACTER;
    }

    /** A stretch of the file's bytes. To read outside of it answers 0, and is remembered as missed. */
    private static final class Span {
        private final int[] cells;
        private int start = 0;
        private int size = 0;
        private boolean missed = false;

        Span(int[] cells) {
            this.cells = cells;
        }

        void lay(int newStart, int newSize) {
            start = Math.max(0, Math.min(newStart, cells.length));
            size = Math.max(0, Math.min(newSize, cells.length - start));
            missed = false;
        }

        boolean holds(long i, long many) {
            return i >= 0 && i + many <= size;
        }

        int u8(int i) {
            if (i < 0 || i >= size) {
                missed = true;
                return 0;
            }
            return cells[start + i];
        }

        int u16(int i) {
            if (i < 0 || i >= size - 1) {
                missed = true;
                return 0;
            }
            return cells[start + i] << 8 | cells[start + i + 1];
        }

        /** As a number without a sign; bytes behind the end count as zeros. */
        long u32(int i) {
            long value = 0;
            for (int k = i; k < i + 4; k++) {
                boolean isInside = k >= 0 && k < size;
                missed |= !isInside;
                value = value << 8 | (isInside ? cells[start + k] : 0);
            }
            return value;
        }
    }

    /** The list of tables at the file's beginning. */
    private static final class Directory {
        private static final int VERSION = 65536;
        private static final int MOST_TABLES = 16;
        private static final int ENTRIES = 12;
        private static final int ENTRY = 16;

        private final Span whole;
        private final Span table;
        private int tables = 0;

        Directory(int[] cells) {
            whole = new Span(cells);
            table = new Span(cells);
        }

        boolean isRight(int fileSize) {
            whole.lay(0, fileSize);
            tables = whole.u16(4);
            if (whole.u32(0) != VERSION || tables < 1 || tables > MOST_TABLES
                    || !whole.holds(ENTRIES, (long) ENTRY * tables)) {
                return false;
            }
            long before = -1;
            for (int t = 0; t < tables; t++) {
                long name = nameOf(t);
                if (name <= before || !whole.holds(whole.u32(entry(t) + 8), whole.u32(entry(t) + 12))) {
                    return false;
                }
                before = name;
            }
            return true;
        }

        boolean sumsAgree() {
            for (int t = 0; t < tables; t++) {
                layTable(t, table);
                long sum = 0;
                for (int i = 0; i < table.size; i += 4) {
                    sum += table.u32(i);
                }
                if ((sum & 0xFFFFFFFFL) != whole.u32(entry(t) + 4)) {
                    return false;
                }
            }
            return true;
        }

        boolean find(long name, Span found) {
            for (int t = 0; t < tables; t++) {
                if (nameOf(t) == name) {
                    layTable(t, found);
                    return true;
                }
            }
            return false;
        }

        private void layTable(int t, Span found) {
            found.lay((int) whole.u32(entry(t) + 8), (int) whole.u32(entry(t) + 12));
        }

        private long nameOf(int t) {
            return whole.u32(entry(t));
        }

        private static int entry(int t) {
            return ENTRIES + ENTRY * t;
        }
    }

    /** The table cmap: which glyph a character has. */
    private static final class CharacterMap {
        private static final int FORMAT = 4;

        private final Span cmap;
        private int place = 0;
        private int ranges = 0;

        CharacterMap(int[] cells) {
            cmap = new Span(cells);
        }

        boolean isRight() {
            long found = findPlace();
            if (!cmap.holds(found, 8)) {
                return false;
            }
            place = (int) found;
            int doubled = cmap.u16(place + 6);
            ranges = doubled / 2;
            return cmap.u16(place) == FORMAT && doubled % 2 == 0 && ranges >= 1
                    && cmap.holds(place, 16 + 8L * ranges) && rangesAreRight();
        }

        private long findPlace() {
            int parts = cmap.u16(2);
            for (int at = 4; at < 4 + 8 * parts && cmap.holds(at, 8); at += 8) {
                if (cmap.u16(at) == 3 && cmap.u16(at + 2) == 1) {
                    return cmap.u32(at + 4);
                }
            }
            return NONE;
        }

        private boolean rangesAreRight() {
            int before = -1;
            for (int s = 0; s < ranges; s++) {
                if (last(s) <= before || first(s) > last(s)) {
                    return false;
                }
                before = last(s);
            }
            return before == LAST_CHARACTER;
        }

        /** What the map says, be there such a glyph or not. */
        int numberOf(int c) {
            for (int s = 0; s < ranges; s++) {
                if (last(s) >= c) {
                    return first(s) > c ? 0 : numberIn(s, c);
                }
            }
            return 0;
        }

        private int numberIn(int s, int c) {
            int delta = cmap.u16(place + 16 + 4 * ranges + 2 * s);
            int wayPlace = place + 16 + 6 * ranges + 2 * s;
            int way = cmap.u16(wayPlace);
            if (way == 0) {
                return (c + delta) & 65535;
            }
            int there = wayPlace + way + 2 * (c - first(s));
            int number = cmap.holds(there, 2) ? cmap.u16(there) : 0;
            return number == 0 ? 0 : (number + delta) & 65535;
        }

        private int last(int s) {
            return cmap.u16(place + 14 + 2 * s);
        }

        private int first(int s) {
            return cmap.u16(place + 16 + 2 * ranges + 2 * s);
        }
    }

    /** The table kern, if there is one: how much nearer or farther two glyphs stand. */
    private static final class Pairs {
        private static final int PAIRS = 18;
        private static final int PAIR = 6;

        private final Span kern;
        private int pairs = 0;

        Pairs(int[] cells) {
            kern = new Span(cells);
        }

        void haveNone() {
            pairs = 0;
        }

        boolean isRight() {
            pairs = kern.u16(10);
            if (kern.u16(2) < 1 || kern.u16(8) != 1) {
                return false;
            }
            // Without pairs nothing is read from 18 on, so the table may end before.
            return !kern.missed && (pairs == 0 || kern.holds(PAIRS, (long) PAIR * pairs));
        }

        int between(int left, int right) {
            for (int at = PAIRS; at < PAIRS + PAIR * pairs; at += PAIR) {
                if (kern.u16(at) == left && kern.u16(at + 2) == right) {
                    return (short) kern.u16(at + 4);
                }
            }
            return 0;
        }
    }

    /** A file's bytes as they were when it was loaded, and where in them the font's tables lie. */
    private static final class Font {
        private static final long CMAP = 0x636D6170L;
        private static final long GLYF = 0x676C7966L;
        private static final long HEAD = 0x68656164L;
        private static final long HHEA = 0x68686561L;
        private static final long HMTX = 0x686D7478L;
        private static final long KERN = 0x6B65726EL;
        private static final long LOCA = 0x6C6F6361L;
        private static final long MAXP = 0x6D617870L;
        private static final int LEAST_EM = 64;
        private static final int MOST_EM = 2048;
        private static final int MOST_GLYPHS = 16;

        private final int[] cells = new int[MOST_BYTES];
        private final Directory directory = new Directory(cells);
        private final Span head = new Span(cells);
        private final Span maxp = new Span(cells);
        private final Span hhea = new Span(cells);
        private final Span hmtx = new Span(cells);
        private final Span loca = new Span(cells);
        private final Span glyf = new Span(cells);
        private final CharacterMap map = new CharacterMap(cells);
        private final Pairs pairs = new Pairs(cells);
        // One for each depth, because a glyph is read on after its part has been read.
        private final Span[] data = {new Span(cells), new Span(cells), new Span(cells)};
        private int em = LEAST_EM;
        private int glyphs = 0;
        private int widths = 0;
        private boolean isLong = false;

        Font() {
        }

        /** How many glyphs there are, or what is wrong. */
        int loadFrom(int[] file, int fileSize, boolean checked, Outline outline) {
            System.arraycopy(file, 0, cells, 0, Math.min(file.length, cells.length));
            if (!directory.isRight(fileSize)) {
                return FILE;
            }
            if (checked && !directory.sumsAgree()) {
                return SUMS;
            }
            if (!findTables()) {
                return TABLES;
            }
            if (!formsAreRight()) {
                return FORMS;
            }
            for (int g = 0; g < glyphs; g++) {
                if (!outline.trace(this, g)) {
                    return GLYPHS;
                }
            }
            return glyphs;
        }

        private boolean findTables() {
            return directory.find(CMAP, map.cmap) && directory.find(GLYF, glyf)
                    && directory.find(HEAD, head) && directory.find(HHEA, hhea)
                    && directory.find(HMTX, hmtx) && directory.find(LOCA, loca)
                    && directory.find(MAXP, maxp);
        }

        private boolean formsAreRight() {
            return headIsRight() && countsAreRight() && placesAreRight() && map.isRight()
                    && kernIsRight();
        }

        private boolean headIsRight() {
            em = head.u16(18);
            int form = head.u16(50);
            isLong = form == 1;
            return head.size >= 54 && em >= LEAST_EM && em <= MOST_EM && form <= 1;
        }

        private boolean countsAreRight() {
            glyphs = maxp.u16(4);
            widths = hhea.u16(34);
            return maxp.size >= 6 && glyphs >= 1 && glyphs <= MOST_GLYPHS
                    && hhea.size >= 36 && widths >= 1 && widths <= glyphs
                    && hmtx.size >= 4 * widths;
        }

        private boolean placesAreRight() {
            long before = 0;
            for (int g = 0; g <= glyphs; g++) {
                long place = placeOf(g);
                if (place < before) {
                    return false;
                }
                before = place;
            }
            return !loca.missed && before <= glyf.size;
        }

        private boolean kernIsRight() {
            if (directory.find(KERN, pairs.kern)) {
                return pairs.isRight();
            }
            pairs.haveNone();
            return true;
        }

        private long placeOf(int g) {
            return isLong ? loca.u32(4 * g) : 2L * loca.u16(2 * g);
        }

        int glyphOf(int c) {
            int number = map.numberOf(c);
            return number < glyphs ? number : 0;
        }

        int widthOf(int g) {
            return hmtx.u16(4 * Math.min(g, widths - 1));
        }

        int kerningOf(int left, int right) {
            return pairs.between(left, right);
        }

        /** The bytes of a glyph that is read as part of depth - 1 others. */
        Span dataOf(int g, int depth) {
            Span bytes = data[Math.max(0, Math.min(depth, data.length) - 1)];
            int place = (int) placeOf(g);
            bytes.lay(glyf.start + place, (int) placeOf(g + 1) - place);
            return bytes;
        }
    }

    /** How a part of a composed glyph is put in its place; the factors are in 16384ths. */
    private static final class Move {
        private static final int WORDS = 1;
        private static final int OFFSETS = 1 << 1;
        private static final int ONE_FACTOR = 1 << 3;
        private static final int TWO_FACTORS = 1 << 6;
        private static final int FOUR_FACTORS = 1 << 7;
        private static final int WHOLE_BITS = 14;

        private int a = 0;
        private int b = 0;
        private int c = 0;
        private int d = 0;
        private int dx = 0;
        private int dy = 0;

        Move() {
        }

        static boolean canBe(int flags) {
            return (flags & OFFSETS) != 0
                    && Integer.bitCount(flags & (ONE_FACTOR | TWO_FACTORS | FOUR_FACTORS)) <= 1;
        }

        /** Reads what lies at a place, and answers the place behind it. */
        int read(Span bytes, int at, int flags) {
            boolean words = (flags & WORDS) != 0;
            dx = words ? (short) bytes.u16(at) : (byte) bytes.u8(at);
            dy = words ? (short) bytes.u16(at + 2) : (byte) bytes.u8(at + 1);
            return readFactors(bytes, at + (words ? 4 : 2), flags);
        }

        private int readFactors(Span bytes, int at, int flags) {
            a = 1 << WHOLE_BITS;
            b = 0;
            c = 0;
            d = a;
            if ((flags & ONE_FACTOR) != 0) {
                a = (short) bytes.u16(at);
                d = a;
                return at + 2;
            }
            if ((flags & TWO_FACTORS) != 0) {
                a = (short) bytes.u16(at);
                d = (short) bytes.u16(at + 2);
                return at + 4;
            }
            if ((flags & FOUR_FACTORS) != 0) {
                a = (short) bytes.u16(at);
                b = (short) bytes.u16(at + 2);
                c = (short) bytes.u16(at + 4);
                d = (short) bytes.u16(at + 6);
                return at + 8;
            }
            return at;
        }

        int newX(int x, int y) {
            return ((a * x + c * y) >> WHOLE_BITS) + dx;
        }

        int newY(int x, int y) {
            return ((b * x + d * y) >> WHOLE_BITS) + dy;
        }
    }

    /** The points of one glyph at a time, read anew from the font's bytes. */
    private static final class Outline {
        private static final int MOST_POINTS = 64;
        private static final int MOST_SIMPLE_POINTS = 24;
        private static final int MOST_CONTOURS = 4;
        private static final int MOST_PARTS = 4;
        private static final int MOST_DEPTH = 3;
        private static final int COMPOSED = -1;
        private static final int BODY = 10;
        private static final int REPEATED = 1 << 3;
        private static final int PART_FOLLOWS = 1 << 5;
        private static final int LEAST = -4096;
        private static final int MOST = 4095;

        private final int[] xs = new int[MOST_POINTS];
        private final int[] ys = new int[MOST_POINTS];
        private final boolean[] isOn = new boolean[MOST_POINTS];
        private final int[] contourOf = new int[MOST_POINTS];
        private final int[] flags = new int[MOST_SIMPLE_POINTS];
        private final Move move = new Move();
        private int points = 0;
        private int contours = 0;

        Outline() {
        }

        /** Whether the glyph's bytes are right; if so, its points are here. */
        boolean trace(Font font, int g) {
            points = 0;
            contours = 0;
            return add(font, g, 1);
        }

        private boolean add(Font font, int g, int depth) {
            if (depth > MOST_DEPTH || g >= font.glyphs) {
                return false;
            }
            Span bytes = font.dataOf(g, depth);
            if (bytes.size == 0) {
                return true;
            }
            int from = points;
            int kind = (short) bytes.u16(0);
            if (kind == COMPOSED) {
                return addParts(font, bytes, depth);
            }
            return kind >= 0 && kind <= MOST_CONTOURS && addContours(bytes, kind)
                    && !bytes.missed && isInRange(from);
        }

        private boolean addParts(Font font, Span bytes, int depth) {
            int at = BODY;
            for (int part = 0; part < MOST_PARTS; part++) {
                int from = points;
                int partFlags = bytes.u16(at);
                if (!Move.canBe(partFlags) || !add(font, bytes.u16(at + 2), depth + 1)) {
                    return false;
                }
                // Only now, because the part may have parts too, which use the same move.
                at = move.read(bytes, at + 4, partFlags);
                movePoints(from);
                if (bytes.missed || !isInRange(from)) {
                    return false;
                }
                if ((partFlags & PART_FOLLOWS) == 0) {
                    return true;
                }
            }
            return false;
        }

        private void movePoints(int from) {
            for (int i = from; i < points; i++) {
                int x = move.newX(xs[i], ys[i]);
                ys[i] = move.newY(xs[i], ys[i]);
                xs[i] = x;
            }
        }

        private boolean addContours(Span bytes, int many) {
            int count = 0;
            for (int k = 0; k < many; k++) {
                int last = bytes.u16(BODY + 2 * k);
                if (last < count || last >= MOST_SIMPLE_POINTS || points + last >= MOST_POINTS) {
                    return false;
                }
                for (; count <= last; count++) {
                    contourOf[points + count] = contours;
                }
                contours++;
            }
            int passedOver = BODY + 2 * many;
            int at = readFlags(bytes, passedOver + 2 + bytes.u16(passedOver), count);
            at = readAxis(bytes, at, count, xs, 1);
            readAxis(bytes, at, count, ys, 2);
            points += count;
            return true;
        }

        private int readFlags(Span bytes, int place, int count) {
            int at = place;
            int flag = 0;
            int more = 0;
            for (int i = 0; i < count; i++) {
                if (more > 0) {
                    more--;
                } else {
                    flag = bytes.u8(at);
                    boolean isRepeated = (flag & REPEATED) != 0;
                    more = isRepeated ? bytes.u8(at + 1) : 0;
                    at += isRepeated ? 2 : 1;
                }
                flags[i] = flag;
                isOn[points + i] = (flag & 1) != 0;
            }
            return at;
        }

        /** Reads all x (shortBit 1) or all y (shortBit 2), and answers the place behind them. */
        private int readAxis(Span bytes, int place, int count, int[] values, int shortBit) {
            int at = place;
            int value = 0;
            for (int i = 0; i < count; i++) {
                boolean isShort = (flags[i] >> shortBit & 1) != 0;
                boolean other = (flags[i] >> (shortBit + 3) & 1) != 0;
                if (isShort) {
                    value += other ? bytes.u8(at) : -bytes.u8(at);
                    at++;
                } else if (!other) {
                    value += (short) bytes.u16(at);
                    at += 2;
                }
                values[points + i] = value;
            }
            return at;
        }

        private boolean isInRange(int from) {
            for (int i = from; i < points; i++) {
                if (xs[i] < LEAST || xs[i] > MOST || ys[i] < LEAST || ys[i] > MOST) {
                    return false;
                }
            }
            return true;
        }
    }

    /** The pixels, and the windings of the one glyph that is being painted. */
    private static final class Picture {
        private static final int WIDTH = 48;
        private static final int HEIGHT = 24;
        private static final int ROWS_ABOVE_BASE = 15;
        private static final int HALF_PIXEL = 32;
        private static final int PIXEL_BITS = 6;

        private final long[] rows = new long[HEIGHT];
        // How much the winding changes at a pixel, against the pixel to its left.
        private final int[] steps = new int[WIDTH * HEIGHT];

        Picture() {
        }

        void clear() {
            Arrays.fill(rows, 0L);
        }

        void beginGlyph() {
            Arrays.fill(steps, 0);
        }

        void addLine(int x0, int y0, int x1, int y1) {
            long height = (long) y1 - y0;
            if (height == 0) {
                return;
            }
            int bottom = Math.max(firstMiddle(Math.min(y0, y1)), ROWS_ABOVE_BASE - HEIGHT + 1);
            int top = Math.min(firstMiddle(Math.max(y0, y1)) - 1, ROWS_ABOVE_BASE);
            for (int line = bottom; line <= top; line++) {
                long y = ((long) line << PIXEL_BITS) + HALF_PIXEL;
                // The middles are whole numbers, so where the line is met may be rounded up.
                long x = x0 - Math.floorDiv((y - y0) * ((long) x0 - x1), height);
                int pixel = Math.max(firstMiddle((int) x), 0);
                if (pixel < WIDTH) {
                    steps[(ROWS_ABOVE_BASE - line) * WIDTH + pixel] += height > 0 ? 1 : -1;
                }
            }
        }

        /** The number of the first pixel whose middle is not below a place. */
        private static int firstMiddle(int place) {
            return (place + HALF_PIXEL - 1) >> PIXEL_BITS;
        }

        void endGlyph() {
            for (int r = 0; r < HEIGHT; r++) {
                int winding = 0;
                for (int x = 0; x < WIDTH; x++) {
                    winding += steps[r * WIDTH + x];
                    if (winding != 0) {
                        rows[r] |= 1L << x;
                    }
                }
            }
        }
    }

    /** Paints character after character, the pen moving on. */
    private static final class Brush {
        private static final int MOST_PARTINGS = 6;
        private static final int NEAR = 4;
        private static final int UNITS = 64;

        private final Picture picture;
        private final Outline outline;
        // A contour is a simple glyph's; at most one point is put in behind each of its own.
        private final int[] ringX = new int[2 * Outline.MOST_SIMPLE_POINTS];
        private final int[] ringY = new int[2 * Outline.MOST_SIMPLE_POINTS];
        private final boolean[] ringOn = new boolean[2 * Outline.MOST_SIMPLE_POINTS];
        private int ringSize = 0;
        private int em = 1;
        private int ppem = 0;
        private int pen = 0;
        private int glyphBefore = NONE;

        Brush(Picture picture, Outline outline) {
            this.picture = picture;
            this.outline = outline;
        }

        void begin(Font font, int newPpem) {
            em = font.em;
            ppem = newPpem;
            pen = 0;
            glyphBefore = NONE;
        }

        void paintCharacter(Font font, int c) {
            int g = font.glyphOf(c);
            if (glyphBefore != NONE) {
                pen += scaled(font.kerningOf(glyphBefore, g));
            }
            outline.trace(font, g);
            paintOutline();
            pen += scaled(font.widthOf(g));
            glyphBefore = g;
        }

        private int scaled(int v) {
            return em < 1 ? 0 : Math.floorDiv(2 * UNITS * v * ppem + em, 2 * em);
        }

        private void paintOutline() {
            picture.beginGlyph();
            int from = 0;
            for (int i = 1; i <= outline.points; i++) {
                if (i == outline.points || outline.contourOf[i] != outline.contourOf[from]) {
                    layRing(from, i);
                    paintRing();
                    from = i;
                }
            }
            picture.endGlyph();
        }

        private void layRing(int from, int end) {
            ringSize = 0;
            for (int i = from; i < end; i++) {
                int next = i + 1 < end ? i + 1 : from;
                addToRing(xOf(i), yOf(i), outline.isOn[i]);
                if (!outline.isOn[i] && !outline.isOn[next]) {
                    addToRing(halfWay(xOf(i), xOf(next)), halfWay(yOf(i), yOf(next)), true);
                }
            }
        }

        private void addToRing(int x, int y, boolean on) {
            if (ringSize < ringOn.length) {
                ringX[ringSize] = x;
                ringY[ringSize] = y;
                ringOn[ringSize] = on;
                ringSize++;
            }
        }

        private int xOf(int i) {
            return scaled(outline.xs[i]) + pen;
        }

        private int yOf(int i) {
            return scaled(outline.ys[i]);
        }

        private void paintRing() {
            int p = 0;
            while (p < ringSize && !ringOn[p]) {
                p++;
            }
            int end = p + ringSize;
            for (int k = p + 1; k <= end && ringSize > 0; k++) {
                int q = (k - 1) % ringSize;
                int r = k % ringSize;
                if (!ringOn[r]) {
                    continue;
                }
                if (ringOn[q]) {
                    picture.addLine(ringX[q], ringY[q], ringX[r], ringY[r]);
                } else {
                    paintCurve(ringX[p], ringY[p], ringX[q], ringY[q], ringX[r], ringY[r], 0);
                }
                p = r;
            }
        }

        private void paintCurve(int px, int py, int qx, int qy, int rx, int ry, int partings) {
            if (partings >= MOST_PARTINGS || isFlat(qx - px, qy - py, rx - px, ry - py)) {
                picture.addLine(px, py, rx, ry);
            } else {
                partCurve(px, py, qx, qy, rx, ry, partings + 1);
            }
        }

        private void partCurve(int px, int py, int qx, int qy, int rx, int ry, int partings) {
            int pqx = halfWay(px, qx);
            int pqy = halfWay(py, qy);
            int qrx = halfWay(qx, rx);
            int qry = halfWay(qy, ry);
            int mx = halfWay(pqx, qrx);
            int my = halfWay(pqy, qry);
            paintCurve(px, py, pqx, pqy, mx, my, partings);
            paintCurve(mx, my, qrx, qry, rx, ry, partings);
        }

        private static boolean isFlat(int qx, int qy, int rx, int ry) {
            int m = Math.max(Math.abs(rx), Math.abs(ry));
            if (m == 0) {
                return Math.abs(qx) <= NEAR && Math.abs(qy) <= NEAR;
            }
            return Math.abs((long) qx * ry - (long) qy * rx) <= (long) NEAR * m;
        }

        private static int halfWay(int u, int v) {
            return (u + v) >> 1;
        }
    }
}
