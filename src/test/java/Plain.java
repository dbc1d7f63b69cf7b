import java.util.ArrayList;
import java.util.Arrays;
import java.util.List;
import java.util.TreeMap;

/**
 * The document once more, written for plainness alone: all is read into lists when a file is loaded,
 * and every pixel is asked by itself. Tests hold its answers against those of GlyphLines.
 */
final class Plain {
    /** What is wrong with a file. */
    private static final class Wrong extends RuntimeException {
        private static final long serialVersionUID = 1L;
        private final int what;

        Wrong(int what) {
            this.what = what;
        }
    }

    /** A point of an outline, in the font's units or in 64ths of pixels. */
    record Point(long x, long y, boolean on, int contour) {
    }

    /** Bytes of which each reading must lie within, or else something is wrong. */
    private record Table(byte[] bytes, int wrong) {
        int u8(long i) {
            if (i < 0 || i >= bytes.length) {
                throw new Wrong(wrong);
            }
            return bytes[(int) i] & 255;
        }

        int u16(long i) {
            return u8(i) * 256 + u8(i + 1);
        }

        int s16(long i) {
            return u16(i) >= 32768 ? u16(i) - 65536 : u16(i);
        }

        long u32(long i) {
            return u16(i) * 65536L + u16(i + 2);
        }

        Table part(long from, long to, int nowWrong) {
            if (from > to || to > bytes.length) {
                throw new Wrong(nowWrong);
            }
            byte[] some = new byte[(int) (to - from)];
            System.arraycopy(bytes, (int) from, some, 0, some.length);
            return new Table(some, nowWrong);
        }
    }

    /** What loading finds. */
    private static final class Font {
        private long em;
        private int glyphs;
        private Table cmap;
        private long map;
        private Table kern;
        private final List<Integer> widths = new ArrayList<>();
        private final List<Table> data = new ArrayList<>();
        private final List<List<Point>> outlines = new ArrayList<>();
    }

    private byte[] file = {};
    private Font font;
    private final List<Integer> text = new ArrayList<>();
    private boolean[][] pixels = new boolean[24][48];

    int feed(int word) {
        if (file.length + 4 > 1200) {
            return -1;
        }
        file = new Bytes().all(file).u32(word).done();
        return file.length;
    }

    int put(int i, int b) {
        if (i < 0 || i >= file.length) {
            throw new IndexOutOfBoundsException();
        }
        if (b < 0 || b > 255) {
            throw new IllegalArgumentException();
        }
        int before = file[i] & 255;
        file[i] = (byte) b;
        return before;
    }

    int at(int i) {
        return i < 0 || i >= file.length ? -1 : file[i] & 255;
    }

    int cut(int many) {
        if (many < 0) {
            throw new IllegalArgumentException();
        }
        int before = file.length;
        if (many < before) {
            file = Arrays.copyOf(file, many);
        }
        return before - file.length;
    }

    int load(boolean checked) {
        try {
            font = found(new Table(file.clone(), -1), checked);
            return font.glyphs;
        } catch (Wrong e) {
            return e.what;
        }
    }

    private static void must(boolean holds, int wrong) {
        if (!holds) {
            throw new Wrong(wrong);
        }
    }

    private static Font found(Table all, boolean checked) {
        must(all.u32(0) == 65536, -1);
        int many = all.u16(4);
        must(many >= 1 && many <= 16, -1);
        TreeMap<Long, Table> tables = new TreeMap<>();
        boolean sumsAgree = true;
        for (int t = 0; t < many; t++) {
            long entry = 12 + 16 * t;
            long name = all.u32(entry);
            must(tables.isEmpty() || name > tables.lastKey(), -1);
            long place = all.u32(entry + 8);
            Table table = all.part(place, place + all.u32(entry + 12), -1);
            tables.put(name, table);
            sumsAgree &= FontFile.sum(table.bytes) == all.u32(entry + 4);
        }
        must(sumsAgree || !checked, -2);
        for (String name : new String[] {"cmap", "glyf", "head", "hhea", "hmtx", "loca", "maxp"}) {
            must(tables.containsKey(number(name)), -3);
        }
        return formed(tables);
    }

    private static long number(String name) {
        long number = 0;
        for (char c : name.toCharArray()) {
            number = number * 256 + c;
        }
        return number;
    }

    private static Table forms(TreeMap<Long, Table> tables, String name) {
        return new Table(tables.get(number(name)).bytes, -4);
    }

    private static Font formed(TreeMap<Long, Table> tables) {
        Font font = new Font();
        Table head = forms(tables, "head");
        must(head.bytes.length >= 54, -4);
        font.em = head.u16(18);
        must(font.em >= 64 && font.em <= 2048 && head.u16(50) <= 1, -4);
        Table maxp = forms(tables, "maxp");
        font.glyphs = maxp.u16(4);
        must(font.glyphs >= 1 && font.glyphs <= 16, -4);
        Table hhea = forms(tables, "hhea");
        int wide = hhea.u16(34);
        must(wide >= 1 && wide <= font.glyphs, -4);
        Table hmtx = forms(tables, "hmtx");
        must(hmtx.bytes.length >= 4 * wide, -4);
        Table loca = forms(tables, "loca");
        Table glyf = forms(tables, "glyf");
        long before = head.u16(50) == 0 ? 2L * loca.u16(0) : loca.u32(0);
        for (int g = 0; g < font.glyphs; g++) {
            font.widths.add(hmtx.u16(g < wide ? 4 * g : 4 * (wide - 1)));
            long next = head.u16(50) == 0 ? 2L * loca.u16(2 * g + 2) : loca.u32(4 * g + 4);
            font.data.add(glyf.part(before, next, -4));
            before = next;
        }
        font.cmap = forms(tables, "cmap");
        font.map = mapPlace(font.cmap);
        if (tables.containsKey(number("kern"))) {
            font.kern = forms(tables, "kern");
            must(font.kern.u16(2) >= 1 && font.kern.u16(8) == 1, -4);
            for (int i = 0; i < 6 * font.kern.u16(10); i++) {
                font.kern.u8(18 + i);
            }
        }
        for (int g = 0; g < font.glyphs; g++) {
            font.outlines.add(outline(font, g, 1));
        }
        return font;
    }

    private static long mapPlace(Table cmap) {
        for (int p = 0; p < cmap.u16(2); p++) {
            if (cmap.u16(4 + 8 * p) == 3 && cmap.u16(6 + 8 * p) == 1) {
                long map = cmap.u32(8 + 8 * p);
                must(cmap.u16(map) == 4 && cmap.u16(map + 6) % 2 == 0 && cmap.u16(map + 6) >= 2, -4);
                int many = cmap.u16(map + 6) / 2;
                cmap.u8(map + 15 + 8L * many);
                for (int s = 0; s < many; s++) {
                    int last = cmap.u16(map + 14 + 2 * s);
                    must(s == 0 || last > cmap.u16(map + 12 + 2 * s), -4);
                    must(s < many - 1 || last == 65535, -4);
                    must(cmap.u16(map + 16 + 2 * many + 2 * s) <= last, -4);
                }
                return map;
            }
        }
        throw new Wrong(-4);
    }

    private static List<Point> outline(Font font, int g, int depth) {
        must(depth <= 3 && g < font.glyphs, -5);
        Table data = new Table(font.data.get(g).bytes, -5);
        List<Point> points = new ArrayList<>();
        if (data.bytes.length > 0) {
            int kind = data.s16(0);
            must(kind >= -1 && kind <= 4, -5);
            if (kind >= 0) {
                simple(data, kind, points);
            } else {
                composed(font, data, depth, points);
            }
        }
        must(points.size() <= 64, -5);
        for (Point p : points) {
            must(p.x >= -4096 && p.x <= 4095 && p.y >= -4096 && p.y <= 4095, -5);
        }
        return points;
    }

    private static void simple(Table data, int contours, List<Point> points) {
        List<Integer> contourOf = new ArrayList<>();
        for (int k = 0; k < contours; k++) {
            int last = data.u16(10 + 2 * k);
            must(last >= contourOf.size() && last < 24, -5);
            while (contourOf.size() <= last) {
                contourOf.add(k);
            }
        }
        long at = 12 + 2 * contours + data.u16(10 + 2 * contours);
        List<Integer> flags = new ArrayList<>();
        while (flags.size() < contourOf.size()) {
            int flag = data.u8(at++);
            int times = (flag & 8) == 0 ? 1 : 1 + data.u8(at++);
            for (int k = 0; k < times && flags.size() < contourOf.size(); k++) {
                flags.add(flag);
            }
        }
        long[][] values = new long[2][flags.size()];
        for (int axis = 0; axis < 2; axis++) {
            long value = 0;
            for (int i = 0; i < flags.size(); i++) {
                boolean high = (flags.get(i) & (axis == 0 ? 16 : 32)) != 0;
                if ((flags.get(i) & (axis == 0 ? 2 : 4)) != 0) {
                    value += high ? data.u8(at) : -data.u8(at);
                    at++;
                } else if (!high) {
                    value += data.s16(at);
                    at += 2;
                }
                values[axis][i] = value;
            }
        }
        for (int i = 0; i < flags.size(); i++) {
            points.add(new Point(values[0][i], values[1][i], flags.get(i) % 2 == 1, contourOf.get(i)));
        }
    }

    private static void composed(Font font, Table data, int depth, List<Point> points) {
        long at = 10;
        int flags = 32;
        for (int part = 0; (flags & 32) != 0; part++) {
            must(part < 4, -5);
            flags = data.u16(at);
            must((flags & 2) != 0, -5);
            int g = data.u16(at + 2);
            boolean words = (flags & 1) != 0;
            long dx = words ? data.s16(at + 4) : (byte) data.u8(at + 4);
            long dy = words ? data.s16(at + 6) : (byte) data.u8(at + 5);
            at += words ? 8 : 6;
            long[] f = {16384, 0, 0, 16384};
            int scaling = flags & (8 | 64 | 128);
            must(scaling == 0 || scaling == 8 || scaling == 64 || scaling == 128, -5);
            if (scaling == 8) {
                f[0] = data.s16(at);
                f[3] = f[0];
                at += 2;
            } else if (scaling == 64) {
                f[0] = data.s16(at);
                f[3] = data.s16(at + 2);
                at += 4;
            } else if (scaling == 128) {
                for (int k = 0; k < 4; k++) {
                    f[k] = data.s16(at + 2 * k);
                }
                at += 8;
            }
            int contours = contoursOf(points);
            for (Point p : outline(font, g, depth + 1)) {
                long x = Math.floorDiv(f[0] * p.x + f[2] * p.y, 16384L) + dx;
                long y = Math.floorDiv(f[1] * p.x + f[3] * p.y, 16384L) + dy;
                points.add(new Point(x, y, p.on, contours + p.contour));
            }
        }
    }

    private static int contoursOf(List<Point> points) {
        return points.isEmpty() ? 0 : points.get(points.size() - 1).contour + 1;
    }

    private void mustHaveFont() {
        if (font == null) {
            throw new IllegalStateException();
        }
    }

    private static int mustBeIn(int i, int many) {
        if (i < 0 || i >= many) {
            throw new IndexOutOfBoundsException();
        }
        return i;
    }

    int glyph(int c) {
        mustHaveFont();
        if (c < 0 || c > 65535) {
            throw new IllegalArgumentException();
        }
        int glyph = mapped(c);
        return glyph < font.glyphs ? glyph : 0;
    }

    private int mapped(int c) {
        Table cmap = font.cmap;
        int twice = cmap.u16(font.map + 6);
        long last = font.map + 14;
        while (cmap.u16(last) < c) {
            last += 2;
        }
        long first = last + twice + 2;
        long delta = first + twice;
        long way = delta + twice;
        if (cmap.u16(first) > c) {
            return 0;
        }
        int glyph = c;
        if (cmap.u16(way) != 0) {
            long there = way + cmap.u16(way) + 2L * (c - cmap.u16(first));
            if (there + 2 > cmap.bytes.length || cmap.u16(there) == 0) {
                return 0;
            }
            glyph = cmap.u16(there);
        }
        return (glyph + cmap.u16(delta)) % 65536;
    }

    int measure(int glyph, int what) {
        mustHaveFont();
        List<Point> points = font.outlines.get(mustBeIn(glyph, font.glyphs));
        int[] all = {font.widths.get(glyph), points.size(), contoursOf(points)};
        return all[mustBeIn(what, 3)];
    }

    int point(int glyph, int i, int what) {
        mustHaveFont();
        List<Point> points = font.outlines.get(mustBeIn(glyph, font.glyphs));
        Point p = points.get(mustBeIn(i, points.size()));
        long[] all = {p.x, p.y, p.on ? 1 : 0, p.contour};
        return (int) all[mustBeIn(what, 4)];
    }

    int kerning(int left, int right) {
        mustHaveFont();
        mustBeIn(left, font.glyphs);
        mustBeIn(right, font.glyphs);
        for (int i = 0; font.kern != null && i < font.kern.u16(10); i++) {
            if (font.kern.u16(18 + 6 * i) == left && font.kern.u16(20 + 6 * i) == right) {
                return font.kern.s16(22 + 6 * i);
            }
        }
        return 0;
    }

    boolean type(int c) {
        return c >= 0 && c <= 65535 && text.size() < 12 && text.add(c);
    }

    int wipe() {
        int had = text.size();
        text.clear();
        return had;
    }

    int paint(int ppem) {
        mustHaveFont();
        if (ppem < 4 || ppem > 24) {
            throw new IllegalArgumentException();
        }
        pixels = new boolean[24][48];
        long pen = 0;
        int before = -1;
        for (int c : text) {
            int g = glyph(c);
            pen += before < 0 ? 0 : scaled(kerning(before, g), ppem);
            List<long[]> lines = new ArrayList<>();
            List<Point> ring = new ArrayList<>();
            for (Point p : font.outlines.get(g)) {
                if (!ring.isEmpty() && ring.get(0).contour != p.contour) {
                    around(ring, lines);
                    ring.clear();
                }
                ring.add(new Point(scaled(p.x, ppem) + pen, scaled(p.y, ppem), p.on, p.contour));
            }
            around(ring, lines);
            set(lines);
            pen += scaled(font.widths.get(g), ppem);
            before = g;
        }
        return (int) pen;
    }

    private long scaled(long v, int ppem) {
        // The greatest whole number not above the value and a half.
        return Math.floorDiv(v * ppem * 64 * 2 + font.em, font.em * 2);
    }

    private static Point half(Point p, Point q) {
        return new Point(Math.floorDiv(p.x + q.x, 2L), Math.floorDiv(p.y + q.y, 2L), true, p.contour);
    }

    private static void around(List<Point> contour, List<long[]> lines) {
        List<Point> ring = new ArrayList<>();
        for (int i = 0; i < contour.size(); i++) {
            Point p = contour.get(i);
            Point next = contour.get((i + 1) % contour.size());
            ring.add(p);
            if (!p.on && !next.on) {
                ring.add(half(p, next));
            }
        }
        int many = ring.size();
        for (int i = 0; i < many; i++) {
            Point p = ring.get(i);
            Point q = ring.get((i + 1) % many);
            if (p.on && q.on) {
                lines.add(new long[] {p.x, p.y, q.x, q.y});
            } else if (p.on) {
                curve(p, q, ring.get((i + 2) % many), 0, lines);
            }
        }
    }

    private static void curve(Point p, Point q, Point r, int parted, List<long[]> lines) {
        long m = Math.max(Math.abs(r.x - p.x), Math.abs(r.y - p.y));
        long cross = Math.abs((q.x - p.x) * (r.y - p.y) - (q.y - p.y) * (r.x - p.x));
        boolean near = Math.abs(q.x - p.x) <= 4 && Math.abs(q.y - p.y) <= 4;
        if (parted == 6 || (m == 0 ? near : cross <= 4 * m)) {
            lines.add(new long[] {p.x, p.y, r.x, r.y});
            return;
        }
        Point middle = half(half(p, q), half(q, r));
        curve(p, half(p, q), middle, parted + 1, lines);
        curve(middle, half(q, r), r, parted + 1, lines);
    }

    private void set(List<long[]> lines) {
        for (int r = 0; r < 24; r++) {
            for (int x = 0; x < 48; x++) {
                pixels[r][x] |= winding(lines, 64 * x + 32, 64 * (15 - r) + 32) != 0;
            }
        }
    }

    private static int winding(List<long[]> lines, long x, long y) {
        int winding = 0;
        for (long[] line : lines) {
            boolean up = line[1] <= y && line[3] > y;
            boolean down = line[3] <= y && line[1] > y;
            if (up || down) {
                // From the lower end on, so that no factor turns the comparison round.
                int low = up ? 0 : 2;
                long met = (y - line[low + 1]) * (line[2 - low] - line[low]);
                if (met <= (x - line[low]) * (line[3 - low] - line[low + 1])) {
                    winding += up ? 1 : -1;
                }
            }
        }
        return winding;
    }

    long row(int r) {
        long row = 0;
        mustBeIn(r, 24);
        for (int x = 47; x >= 0; x--) {
            row = row * 2 + (pixels[r][x] ? 1 : 0);
        }
        return row;
    }
}
