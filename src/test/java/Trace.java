import java.util.ArrayList;
import java.util.List;

/** What a board answers to a row of calls, each answer with its call. */
final class Trace {
    private static final int LETTERS_AT_EACH_END = 20;

    private final SpanBoard board;
    private final List<String> rows = new ArrayList<>();

    private Trace(SpanBoard board) {
        this.board = board;
    }

    /** All that a board tells of itself; of a long post, the letters at both ends. */
    static List<String> now(SpanBoard x) {
        Trace trace = new Trace(x);
        trace.post();
        trace.state();
        return trace.rows;
    }

    /**
     * What becomes of a board: who was down and who lies, then all that is open is sent once more and
     * delivered, and each reader reads each point. So it shows what no call tells at once.
     */
    static List<String> later(SpanBoard x) {
        Trace trace = new Trace(x);
        trace.recorders();
        trace.goOn();
        trace.state();
        trace.readAll();
        trace.alarms();
        return trace.rows;
    }

    /** As later, but of a board of few letters, all of which are lost first. */
    static List<String> laterWithoutPost(SpanBoard x) {
        if (x.letters() <= 2 * LETTERS_AT_EACH_END) {
            Steps.loseAll(x);
        }
        return later(x);
    }

    private void row(String call, int answer) {
        rows.add(call + " = " + answer);
    }

    private void row(String call, boolean answer) {
        row(call, answer ? 1 : 0);
    }

    private void post() {
        int letters = board.letters();
        row("letters()", letters);
        for (int i = 0; i < letters; i++) {
            if (i < LETTERS_AT_EACH_END || i >= letters - LETTERS_AT_EACH_END) {
                for (int what = 0; what < 5; what++) {
                    row("letter(" + i + ", " + what + ")", board.letter(i, what));
                }
            }
        }
    }

    private void state() {
        for (int p = 0; p < 4; p++) {
            for (int what = 0; what < 4; what++) {
                row("writer(" + p + ", " + what + ")", board.writer(p, what));
            }
            for (int r = 0; r < 9; r++) {
                for (int field = 0; field < 3; field++) {
                    row("held(" + r + ", " + p + ", " + field + ")", board.held(r, p, field));
                }
            }
        }
        for (int r = 0; r < 3; r++) {
            for (int what = 0; what < 3; what++) {
                row("reader(" + r + ", " + what + ")", board.reader(r, what));
            }
            answers(r);
        }
        alarms();
    }

    private void answers(int reader) {
        row("outcome(" + reader + ")", board.outcome(reader));
        for (int field = 0; field < 4; field++) {
            row("answered(" + reader + ", " + field + ")", board.answered(reader, field));
        }
    }

    private void alarms() {
        for (int i = 0; i < 3; i++) {
            row("alarm(" + i + ")", board.alarm(i));
        }
    }

    private void recorders() {
        for (int r = 0; r < 9; r++) {
            row("restart(" + r + ")", board.restart(r));
            row("receipt(" + r + ", 0)", board.receipt(r, 0));
            row("lie(" + r + ")", board.lie(r));
        }
    }

    private void goOn() {
        for (int p = 0; p < 4; p++) {
            row("storeAgain(" + p + ")", board.storeAgain(p));
        }
        for (int r = 0; r < 3; r++) {
            row("askAgain(" + r + ")", board.askAgain(r));
        }
        row("deliverAll(9999)", board.deliverAll(9999));
    }

    private void readAll() {
        for (int p = 0; p < 4; p++) {
            for (int r = 0; r < 3; r++) {
                row("read(" + r + ", " + p + ")", board.read(r, p));
            }
            row("deliverAll(9999)", board.deliverAll(9999));
            for (int r = 0; r < 3; r++) {
                answers(r);
            }
        }
    }
}
