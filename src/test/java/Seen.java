import java.util.ArrayList;
import java.util.List;

/** All that can be asked of an object. To ask for the text, it is painted and wiped, and the file cut. */
final class Seen {
    private final GlyphLines lines;
    private final List<String> answers = new ArrayList<>();

    private Seen(GlyphLines lines) {
        this.lines = lines;
    }

    /** Only every step-th byte of the file is asked for, so that an object is not used for too many calls. */
    static List<String> of(GlyphLines lines, int step) {
        Seen seen = new Seen(lines);
        seen.file(step);
        seen.rows("before paint");
        seen.font();
        seen.text();
        seen.ask("cut(0)", () -> lines.cut(0));
        return seen.answers;
    }

    private void ask(String call, Check.Call made) {
        answers.add(call + " " + Check.told(made));
    }

    private void file(int step) {
        int b = 0;
        for (int i = 0; b != GlyphLines.NONE; i += step) {
            b = lines.at(i);
            answers.add("at(" + i + ") " + b);
        }
    }

    private void rows(String when) {
        for (int r = 0; r < 24; r++) {
            int row = r;
            ask("row(" + r + ") " + when, () -> lines.row(row));
        }
    }

    private void font() {
        for (int k = 0; k < 3; k++) {
            int one = k;
            ask("glyph(" + k + ")", () -> lines.glyph(one));
            ask("measure(" + k + ", 0)", () -> lines.measure(one, 0));
            ask("measure(1, " + k + ")", () -> lines.measure(1, one));
            ask("point(1, 1, " + k + ")", () -> lines.point(1, 1, one));
            ask("kerning(1, " + k + ")", () -> lines.kerning(1, one));
        }
    }

    private void text() {
        ask("paint(16)", () -> lines.paint(16));
        rows("behind paint");
        ask("wipe()", () -> lines.wipe());
    }
}
