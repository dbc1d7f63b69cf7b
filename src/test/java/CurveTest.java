import java.util.Arrays;

/** Promise 13, and of the terms: a contour's ring, its lines and its CURVES. */
public final class CurveTest {
    /** A quarter of a round, with the middles on its long side not set, as it is due with ppem 16. */
    private static final long[] QUARTER = {14, 1, 13, 3, 12, 7, 11, 14, 10, 28, 9, 56, 8, 112};

    private CurveTest() {
    }

    public static void main(String[] args) {
        onePoint();
        twoPoints();
        lineFromOnToOn();
        curveByHand();
        ringBeginsAnywhere();
        pointsPutIn();
        pointPutInBetweenLastAndFirst();
        noPointPutInBesideOneThatIsOn();
        manyPointsPutIn();
        putInPointIsRoundedDown();
        flatCurves();
        flatCurvesOfOne();
        flatCurvesOfAllWays();
        partedSixTimes();
        partingIsRoundedDown();
        oddNumbers();
        curveBackToItsBeginning();
        Check.end();
    }

    private static void onePoint() {
        GlyphLines on = Painted.contours(new int[] {3, 3, 1});
        Painted.paint(on, 24, 0);
        Painted.picture("one that is ON", on);
        GlyphLines off = Painted.contours(new int[] {9, 9, 0});
        Painted.paint(off, 24, 0);
        Painted.picture("one that is not, its own neighbour", off);
        GlyphLines box = Painted.contours(new int[] {40, 40, 1}, FontFile.box(0, 0, 8, 8), new int[] {30, 50, 0});
        Painted.paint(box, 16, 0);
        Painted.picture("in front of a box and behind it", box, 15, 3, 14, 3);
    }

    private static void twoPoints() {
        GlyphLines line = Painted.contours(new int[] {0, 0, 1, 20, 20, 1});
        Painted.paint(line, 24, 0);
        Painted.picture("both ON: there and back", line);
        GlyphLines both = Painted.contours(new int[] {0, 0, 0, 30, 30, 0});
        Painted.paint(both, 24, 0);
        Painted.picture("neither ON: there and back", both);
        GlyphLines one = Painted.contours(new int[] {0, 0, 1, 40, 40, 0});
        Painted.paint(one, 24, 0);
        Painted.picture("one ON: a curve back to it", one);
    }

    private static void lineFromOnToOn() {
        GlyphLines lines = Painted.contours(FontFile.lines(0, 0, 0, 16, 16, 0));
        Painted.paint(lines, 16, 0);
        Painted.picture("three lines", lines, 15, 7, 14, 3, 13, 1);
        GlyphLines curved = Painted.contours(new int[] {0, 0, 1, 0, 16, 0, 16, 0, 1});
        Painted.paint(curved, 16, 0);
        Check.due("the same with a curve is not alike", Painted.areAlike(lines, curved), false);
    }

    private static void curveByHand() {
        // ppem 16: P 0, 0, Q 0, 512, R 512, 512; |u x v| = 512 * 512 above 4 * 512. M is 128, 384.
        // Then 32, 224 and 288, 480 too are points of the curve, and middles: these are set. The line
        // from R to P closes it; the middles on it are not set.
        GlyphLines lines = Painted.contours(new int[] {0, 0, 1, 0, 32, 0, 32, 32, 1});
        Painted.paint(lines, 16, 0);
        Painted.picture("a quarter", lines, QUARTER);
    }

    private static void ringBeginsAnywhere() {
        int[][] turned = {{0, 0, 1, 0, 32, 0, 32, 32, 1}, {0, 32, 0, 32, 32, 1, 0, 0, 1},
            {32, 32, 1, 0, 0, 1, 0, 32, 0}};
        for (int[] contour : turned) {
            GlyphLines lines = Painted.contours(contour);
            Painted.paint(lines, 16, 0);
            Painted.picture("a quarter, turned", lines, QUARTER);
        }
    }

    private static void pointsPutIn() {
        // Four points that are not ON: a round shape that touches the middles of a box's sides.
        GlyphLines round = Painted.contours(new int[] {0, 0, 0, 0, 32, 0, 32, 32, 0, 32, 0, 0});
        GlyphLines written = Painted.contours(new int[] {0, 16, 1, 0, 32, 0, 16, 32, 1, 32, 32, 0,
            32, 16, 1, 32, 0, 0, 16, 0, 1, 0, 0, 0});
        Painted.paint(round, 16, 0);
        Painted.paint(written, 16, 0);
        Painted.picture("round", round, 8, 60, 9, 126, 10, 255, 11, 255, 12, 255, 13, 255, 14, 126, 15, 60);
        Check.due("put in or written", Painted.areAlike(round, written), true);
    }

    private static void pointPutInBetweenLastAndFirst() {
        // The first and the last are neighbours; half-way between them is 16, 0.
        GlyphLines ring = Painted.contours(new int[] {32, 0, 0, 32, 32, 1, 0, 32, 1, 0, 0, 0});
        GlyphLines written = Painted.contours(new int[] {32, 0, 0, 32, 32, 1, 0, 32, 1, 0, 0, 0, 16, 0, 1});
        Painted.paint(ring, 16, 0);
        Painted.paint(written, 16, 0);
        Check.due("put in or written", Painted.areAlike(ring, written), true);
        Check.due("something is painted", ring.row(10) != 0, true);
    }

    private static void noPointPutInBesideOneThatIsOn() {
        GlyphLines ring = Painted.contours(new int[] {0, 0, 1, 0, 32, 0, 32, 32, 1, 32, 0, 0});
        GlyphLines wrong = Painted.contours(new int[] {0, 0, 1, 0, 32, 0, 16, 32, 1, 32, 32, 1, 32, 0, 0});
        Painted.paint(ring, 16, 0);
        Painted.paint(wrong, 16, 0);
        Check.due("not as if one were put in", Painted.areAlike(ring, wrong), false);
        Painted.asPlain("two curves", FontFile.of(FontFile.simple(
                new int[] {0, 0, 1, 0, 32, 0, 32, 32, 1, 32, 0, 0})), 4, 9, 16, 24);
    }

    private static void manyPointsPutIn() {
        int[] star = new int[72];
        for (int i = 0; i < 24; i++) {
            double turn = 2 * Math.PI * i / 24;
            int radius = i % 2 == 0 ? 32 : 12;
            star[3 * i] = 32 + (int) (radius * Math.cos(turn));
            star[3 * i + 1] = 16 + (int) (radius * Math.sin(turn));
        }
        Painted.asPlain("24 points, none ON", FontFile.of(FontFile.simple(star)), 4, 8, 12, 16, 20, 24);
    }

    private static void putInPointIsRoundedDown() {
        // The point put in is 32, 96, a middle's x; 33, 96 would be too far right.
        GlyphLines side = Painted.units(
                new int[] {33, 0, 1, 33, 64, 0, 32, 128, 0, 34, 192, 1, 90, 192, 1, 90, 0, 1});
        Painted.paint(side, 4, 0);
        Painted.picture("put in at 32, 96", side, 14, 1);
        // The point put in is 96, 32, not above the middles' y; 96, 33 would be.
        GlyphLines top = Painted.units(
                new int[] {0, 31, 1, 64, 33, 0, 128, 32, 0, 192, 31, 1, 192, -20, 1, 0, -20, 1});
        Painted.paint(top, 4, 0);
        Painted.picture("put in at 96, 32", top);
        GlyphLines below = Painted.units(
                new int[] {0, -33, 1, 64, -31, 0, 128, -32, 0, 192, -33, 1, 192, -60, 1, 0, -60, 1});
        Painted.paint(below, 4, 0);
        Painted.picture("put in at 96, -32", below);
        // Half-way between -1 and 0 is -1: from there to 65, 64 the middles' row is met at 32, not later.
        GlyphLines left = Painted.units(new int[] {-1, 0, 0, 0, 0, 0, 65, 64, 1, 190, 64, 1, 190, 0, 1});
        Painted.paint(left, 4, 0);
        Painted.picture("put in at -1, 0", left, 15, 7);
    }

    private static int[] join(int[] one, int[] other) {
        int[] both = Arrays.copyOf(one, one.length + other.length);
        System.arraycopy(other, 0, both, one.length, other.length);
        return both;
    }

    private static void flatCurves() {
        // |u x v| is 4 * 192, not above 4 * m: a line below 32.
        int[] rest = {192, 31, 1, 192, -20, 1, 0, -20, 1};
        GlyphLines flat = Painted.units(join(new int[] {0, 31, 1, 96, 35, 0}, rest));
        Painted.paint(flat, 4, 0);
        Painted.picture("flat enough", flat);
        // Here it is 5 * 192: parted at 96, 33, which gives lines that meet 32 at 48 and 144.
        GlyphLines parted = Painted.units(join(new int[] {0, 31, 1, 96, 36, 0}, rest));
        Painted.paint(parted, 4, 0);
        Painted.picture("parted once", parted, 15, 2);
        // The same from top to bottom, m being |Ry - Py|.
        int[] side = {31, 192, 1, -20, 192, 1, -20, 0, 1};
        GlyphLines flatSide = Painted.units(join(new int[] {31, 0, 1, 35, 96, 0}, side));
        Painted.paint(flatSide, 4, 0);
        Painted.picture("flat enough, upright", flatSide);
        GlyphLines partedSide = Painted.units(join(new int[] {31, 0, 1, 36, 96, 0}, side));
        Painted.paint(partedSide, 4, 0);
        Painted.picture("parted once, upright", partedSide, 14, 1);
        // u is 0, 4 or -1, 4, v is 193, 1: |u x v| is 772, that is 4 * 193, or one more. Parted, it goes
        // up to 47, 33, and down to 193, 32: above 32 from 23.5 on.
        int[] end = {193, 32, 1, 193, -20, 1, 0, -20, 1};
        GlyphLines last = Painted.units(join(new int[] {0, 31, 1, 0, 35, 0}, end));
        Painted.paint(last, 4, 0);
        Painted.picture("4 * m", last);
        GlyphLines first = Painted.units(join(new int[] {0, 31, 1, -1, 35, 0}, end));
        Painted.paint(first, 4, 0);
        Painted.picture("4 * m and 1", first, 15, 7);
    }

    private static void flatCurvesOfOne() {
        // m is 1: v is 1, 0, u is 72, 4 or 72, 5. Parted, it goes to 50, 33 and back, and meets 32 at 32
        // and at 32.5: between them is the middle of pixel 0.
        int[] end = {15, 31, 1, 15, -20, 1, 14, -20, 1};
        GlyphLines last = Painted.units(join(new int[] {14, 31, 1, 86, 35, 0}, end));
        Painted.paint(last, 4, 0);
        Painted.picture("4 * 1", last);
        GlyphLines first = Painted.units(join(new int[] {14, 31, 1, 86, 36, 0}, end));
        Painted.paint(first, 4, 0);
        Painted.picture("4 * 1 and 1", first, 15, 1);
    }

    private static void flatCurvesOfAllWays() {
        for (int way = 0; way < 8; way++) {
            for (boolean back : new boolean[] {false, true}) {
                int[] end = {193, 32, 1, 193, -20, 1, 0, -20, 1};
                int[] straight = turned(join(new int[] {0, 31, 1}, end), way, back);
                int[] flat = turned(join(new int[] {0, 31, 1, 0, 35, 0}, end), way, back);
                int[] parted = turned(join(new int[] {0, 31, 1, -1, 35, 0}, end), way, back);
                Check.due("4 * m is as straight, way " + way, alike(flat, straight), true);
                Check.due("4 * m and 1 is not, way " + way, alike(parted, straight), false);
                Painted.asPlain("4 * m and 1, way " + way, FontFile.of(FontFile.simple(parted))
                        .table("head", FontFile.head(256, 1)), 4);
            }
        }
    }

    private static boolean alike(int[] one, int[] other) {
        GlyphLines first = Painted.units(one);
        GlyphLines second = Painted.units(other);
        Painted.paint(first, 4, 0);
        Painted.paint(second, 4, 0);
        return Painted.areAlike(first, second);
    }

    /** Mirrored in x (bit 0), in y (bit 1), x and y exchanged (bit 2); gone round the other way or not. */
    private static int[] turned(int[] contour, int way, boolean back) {
        int[] other = new int[contour.length];
        int points = contour.length / 3;
        for (int i = 0; i < points; i++) {
            int x = (way & 1) == 0 ? contour[3 * i] : 193 - contour[3 * i];
            int y = (way & 2) == 0 ? contour[3 * i + 1] : 64 - contour[3 * i + 1];
            int place = 3 * (back ? points - 1 - i : i);
            other[place] = (way & 4) == 0 ? x : y;
            other[place + 1] = (way & 4) == 0 ? y : x;
            other[place + 2] = contour[3 * i + 2];
        }
        return other;
    }

    private static void partedSixTimes() {
        // ppem 24: from -96000, -96000 by 0, 96000 to 96000, -96000. Right of its top, 0, 0, the points are
        // 96000, -96000; 48000, -24000; 24000, -6000; 12000, -1500; 6000, -375; and, for the sixth
        // time, 3000, -94. Were it parted 5 times, the line to 6000, -375 would meet -32 at 512, not
        // at 1021; 7 times, there would be a point 1500, -24, and -32 would be met at 1671.
        long full = (1L << 48) - 1;
        GlyphLines right = Painted.contours(new int[] {-4000, -4000, 1, 0, 4000, 0, 4000, -4000, 1});
        Painted.paint(right, 24, 0);
        Painted.picture("right of the top", right, 16, (1L << 16) - 1, 17, (1L << 47) - 1,
                18, full, 19, full, 20, full, 21, full, 22, full, 23, full);
        // The same, with its top at 2160, 0: -32 is met at 2160 - 1021 = 1139.
        GlyphLines left = Painted.contours(new int[] {-3910, -4000, 1, 90, 4000, 0, 4090, -4000, 1});
        Painted.paint(left, 24, 0);
        Painted.picture("left of the top", left, 16, full - ((1L << 18) - 1), 17, full,
                18, full, 19, full, 20, full, 21, full, 22, full, 23, full);
        // Other curves that are not flat when parted 6 times; the due rows are those of Plain.
        int[] great = {-400, -4000, 1, 60, -200, 0, 100, 60, 1, 500, 4000, 0, 4000, 4095, 1, 4095, -4096, 1};
        int[] back = {4000, 4095, 1, 500, 4000, 0, 100, 60, 1, 60, -200, 0, -400, -4000, 1, -4096, 4095, 1};
        Painted.asPlain("great curves", FontFile.of(FontFile.simple(great)), 4, 8, 12, 16, 20, 24);
        Painted.asPlain("great curves, the other way", FontFile.of(FontFile.simple(back)), 4, 8, 12, 16, 20, 24);
    }

    private static void partingIsRoundedDown() {
        // Each time M would be above 32, were the one rounded up; as it is, all lies below, or on it.
        neverAbove("M, between 32 and 33", 0, 30, -1, 34, 193, 32);
        neverAbove("PQ, between 31 and 34", 0, 31, -194, 34, 193, 32);
        neverAbove("QR, between 35 and 32", 0, 29, 0, 35, 193, 32);
    }

    /** A curve P Q R of 64ths, from which a box goes down: no middle at 32 is inside, nor at -32, if it is lower. */
    private static void neverAbove(String what, int px, int py, int qx, int qy, int rx, int ry) {
        int[] contour = {px, py, 1, qx, qy, 0, rx, ry, 1, rx, -20, 1, px, -20, 1};
        GlyphLines upright = Painted.units(contour);
        Painted.paint(upright, 4, 0);
        Painted.picture(what, upright);
        GlyphLines exchanged = Painted.units(turned(contour, 4, false));
        Painted.paint(exchanged, 4, 0);
        Painted.picture(what + ", x and y exchanged", exchanged);
        for (int i = 1; i < contour.length; i += 3) {
            contour[i] -= 64;
        }
        GlyphLines lower = Painted.units(contour);
        Painted.paint(lower, 4, 0);
        Painted.picture(what + ", a pixel lower", lower);
    }

    private static void oddNumbers() {
        // Odd numbers everywhere, on both sides of 0; the due rows are those of Plain.
        for (int shift = -3; shift <= 3; shift++) {
            int[] contour = {shift, -61 + shift, 1, 33, 127 + shift, 0, 191 + shift, -29, 1,
                67 - shift, -131, 0, -35, -97 + shift, 0};
            Painted.asPlain("odd numbers", FontFile.of(FontFile.simple(contour))
                    .table("head", FontFile.head(256, 1)), 4, 5, 7, 11, 24);
        }
    }

    private static void curveBackToItsBeginning() {
        // m is 0: Q is 4 or 5 away; the curve goes there and back, and paints nothing whether parted or not.
        int[][] ways = {{4, 0}, {5, 0}, {0, 4}, {0, 5}, {-4, 4}, {-5, 5}, {4, 5}, {100, -100}, {1000, 900}};
        for (int[] way : ways) {
            GlyphLines lines = Painted.units(new int[] {30, 30, 1, 30 + way[0], 30 + way[1], 0});
            Painted.paint(lines, 4, 0);
            Painted.picture("to " + way[0] + ", " + way[1] + " and back", lines);
            GlyphLines farther = Painted.units(new int[] {300, 300, 1, 300 + way[0], 300 + way[1], 0});
            Painted.paint(farther, 4, 0);
            Painted.picture("from 300, 300 to " + way[0] + ", " + way[1] + " and back", farther);
        }
        // In a ring of more points it changes nothing.
        GlyphLines with = Painted.units(join(new int[] {0, 0, 1, 150, 150, 0, 0, 0, 1},
                new int[] {0, 128, 1, 128, 128, 1, 128, 0, 1}));
        Painted.paint(with, 4, 0);
        Painted.picture("a box, and there and back", with, 15, 3, 14, 3);
    }
}
