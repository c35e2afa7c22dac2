import java.util.function.ToIntFunction;

/**
 * Each sentence that says when a call that only looks answers NONE or 0, and the last one that it
 * does not say that of. Promises 7, 8, 19 to 23 and 25.
 */
public final class NothingThereTest {
    private static final int[] BEYOND = {Integer.MIN_VALUE, Integer.MAX_VALUE};

    public static void main(String[] args) {
        letters();
        letterPlaces();
        letterWhats();
        outcome();
        answered();
        readerWhats();
        readerThatDoesNotRead();
        writer();
        held();
        alarmPlaces();
        alarmWithoutCause();
        alarmAtTheSpansEnds();
        Check.end();
    }

    private static void none(String call, ToIntFunction<SpanBoard> asked) {
        Refused.none(call, Scenes::middle, asked);
    }

    private static void letters() {
        Check.holds("Promise 7: how many letters are on their way, of none 0", () -> {
            SpanBoard x = new SpanBoard(1);
            Check.due("letters() of a new board", x.letters(), 0);
            x.write(0, 1, 1);
            Check.due("deliverAll(18)", x.deliverAll(18), 18);
            Check.due("letters() when all have come", x.letters(), 0);
            x.write(0, 1, 1);
            Steps.loseAll(x);
            Check.due("letters() when all are lost", x.letters(), 0);
        });
        Check.holds("Promise 7: how many letters are on their way, at most 300", () -> {
            Check.due("letters() of 299", Scenes.almostFull().letters(), 299);
            Check.due("letters() of 300", Scenes.full().letters(), 300);
        });
    }

    private static void letterPlaces() {
        Check.holds("Promise 8: NONE if there is no letter at this place", () -> {
            int[] wrong = {-1, 14, 299, 300, Integer.MIN_VALUE, Integer.MAX_VALUE};
            for (int i : wrong) {
                none("letter(" + i + ", 0)", x -> x.letter(i, 0));
                none("letter(" + i + ", 4)", x -> x.letter(i, 4));
            }
            Check.due("letter(0, 0), empty", new SpanBoard(1).letter(0, 0), Steps.NONE);
            Check.due("letter(299, 0) of 299", Scenes.almostFull().letter(299, 0), Steps.NONE);
            Check.due("letter(300, 0) of 300", Scenes.full().letter(300, 0), Steps.NONE);
        });
        Check.holds("Promise 8: the letter at place i, from 0 on", () -> {
            Steps.row(Scenes.middle(), 0, Steps.STORE, 3, 1, Steps.NONE, 1);
            Steps.row(Scenes.middle(), 13, Steps.TELL, 2, 0, 0, 1);
            Steps.row(Scenes.full(), 299, Steps.STORE, 2, 0, Steps.NONE, 1);
        });
    }

    private static void letterWhats() {
        Check.holds("Promise 8: NONE if there is no such what", () -> {
            for (int what : new int[] {-1, 5, 6, BEYOND[0], BEYOND[1]}) {
                none("letter(0, " + what + ")", x -> x.letter(0, what));
                none("letter(13, " + what + ")", x -> x.letter(13, what));
            }
        });
        Check.holds("Promise 8: the reader is NONE of STORE and RECEIPT, and only of them", () -> {
            SpanBoard x = Scenes.middle();
            Check.due("letter(5, 3), STORE", x.letter(5, 3), Steps.NONE);
            Check.due("letter(6, 3), RECEIPT", x.letter(6, 3), Steps.NONE);
            Check.due("letter(7, 3), ASK", x.letter(7, 3), 0);
            Check.due("letter(13, 3), TELL", x.letter(13, 3), 0);
            x.receipt(7, 0);
            x.tell(7, 0, 4, 4, 4);
            Check.due("letter(14, 3), a liar's RECEIPT", x.letter(14, 3), Steps.NONE);
            Check.due("letter(15, 3), a liar's TELL", x.letter(15, 3), 0);
        });
    }

    private static void outcome() {
        Check.holds("Promise 19: NONE if there is none such", () -> {
            for (int r : Steps.NO_READER) {
                none("outcome(" + r + ")", x -> x.outcome(r));
            }
        });
        Check.holds("Promise 19: 0 nothing yet", () -> {
            for (int r = 0; r < 3; r++) {
                Check.due("outcome(" + r + ")", new SpanBoard(1).outcome(r), 0);
            }
            Check.due("outcome(2), others read and answered", Scenes.middle().outcome(2), 0);
        });
    }

    private static void answered() {
        Check.holds("Promise 20: NONE if there is no such reader", () -> {
            for (int r : Steps.NO_READER) {
                none("answered(" + r + ", 0)", x -> x.answered(r, 0));
            }
        });
        Check.holds("Promise 20: NONE if there is nothing such", () -> {
            for (int field = 0; field < 4; field++) {
                int f = field;
                none("answered(2, " + f + "), nothing yet", x -> x.answered(2, f));
                none("answered(0, " + f + "), its first read", x -> x.answered(0, f));
                Refused.none("answered(0, " + f + "), BUSY", Scenes::busy, x -> x.answered(0, f));
            }
        });
        Check.holds("Promise 20: NONE if there is no such field", () -> {
            for (int field : new int[] {-1, 4, 5, BEYOND[0], BEYOND[1]}) {
                none("answered(1, " + field + ")", x -> x.answered(1, field));
            }
            Steps.answer(Scenes.middle(), 1, 0, 1, 5, 9);
        });
    }

    private static void readerWhats() {
        Check.holds("Promise 21: NONE for no such reader", () -> {
            for (int r : Steps.NO_READER) {
                for (int what = 0; what < 3; what++) {
                    int w = what;
                    none("reader(" + r + ", " + w + ")", x -> x.reader(r, w));
                }
            }
        });
        Check.holds("Promise 21: NONE for no such what", () -> {
            for (int what : new int[] {-1, 3, 4, BEYOND[0], BEYOND[1]}) {
                none("reader(0, " + what + ")", x -> x.reader(0, what));
                none("reader(2, " + what + ")", x -> x.reader(2, what));
            }
        });
    }

    private static void doesNotRead(SpanBoard x, int reader, int question) {
        Check.due("reader(" + reader + ", 0)", x.reader(reader, 0), question);
        Check.due("reader(" + reader + ", 1)", x.reader(reader, 1), 0);
        Check.due("reader(" + reader + ", 2)", x.reader(reader, 2), 0);
    }

    private static void readerThatDoesNotRead() {
        Check.holds("Promise 21: 1 and 2 are 0 if it does not read", () -> {
            SpanBoard x = Scenes.middle();
            Check.due("reader(0, 1), it reads", x.reader(0, 1), 1);
            Check.due("reader(0, 2), it reads", x.reader(0, 2), 2);
            doesNotRead(x, 1, 1);
            doesNotRead(x, 2, 0);
            doesNotRead(Scenes.busy(), 0, 1);
        });
    }

    private static void writer() {
        Check.holds("Promise 22: NONE for no such point", () -> {
            for (int p : Steps.NO_POINT) {
                for (int what = 0; what < 4; what++) {
                    int w = what;
                    none("writer(" + p + ", " + w + ")", x -> x.writer(p, w));
                }
            }
        });
        Check.holds("Promise 22: NONE for no such what", () -> {
            for (int what : new int[] {-1, 4, 5, BEYOND[0], BEYOND[1]}) {
                none("writer(1, " + what + ")", x -> x.writer(1, what));
                none("writer(3, " + what + ")", x -> x.writer(3, what));
            }
        });
        Check.holds("Promise 22: the number of the latest finished write, 0 before there is one", () -> {
            SpanBoard x = Scenes.middle();
            Check.due("writer(3, 3), never written", x.writer(3, 3), 0);
            Check.due("writer(1, 3), the first is open", x.writer(1, 3), 0);
            Check.due("writer(0, 3), the first is finished", x.writer(0, 3), 1);
            x.write(0, 1, 1);
            Check.due("writer(0, 3), the second is open", x.writer(0, 3), 1);
        });
    }

    private static void held() {
        Check.holds("Promise 23: NONE if there is no such recorder", () -> {
            for (int r : Steps.NO_RECORDER) {
                none("held(" + r + ", 0, 0)", x -> x.held(r, 0, 0));
            }
        });
        Check.holds("Promise 23: NONE if there is no such point", () -> {
            for (int p : Steps.NO_POINT) {
                none("held(0, " + p + ", 0)", x -> x.held(0, p, 0));
            }
        });
        Check.holds("Promise 23: NONE if there is no such field", () -> {
            for (int field : new int[] {-1, 3, 4, BEYOND[0], BEYOND[1]}) {
                none("held(0, 0, " + field + ")", x -> x.held(0, 0, field));
            }
            Check.due("held(0, 0, 2)", Scenes.middle().held(0, 0, 2), 9);
        });
    }

    private static void alarmPlaces() {
        Check.holds("Promise 25: the i-th hall, from 0 on; NONE if there is none", () -> {
            for (int i : new int[] {-1, 1, 2, 3, BEYOND[0], BEYOND[1]}) {
                none("alarm(" + i + ")", x -> x.alarm(i));
            }
            Check.due("alarm(0) of one", Scenes.middle().alarm(0), 0);
            SpanBoard x = allHalls();
            for (int i = 0; i < 3; i++) {
                Check.due("alarm(" + i + ") of three", x.alarm(i), i);
            }
            Check.due("alarm(3) of three", x.alarm(3), Steps.NONE);
            Check.due("alarm(-1) of three", x.alarm(-1), Steps.NONE);
        });
        Check.holds("Promise 25: halls in order, those without an alarm left out", () -> {
            SpanBoard x = allHalls();
            x.measured(1, 0);
            Check.due("alarm(0)", x.alarm(0), 0);
            Check.due("alarm(1)", x.alarm(1), 2);
            Check.due("alarm(2)", x.alarm(2), Steps.NONE);
        });
    }

    /** Points 0 .. 2, each in a hall of its own, were answered 0 0; all halls measured 5. */
    private static SpanBoard allHalls() {
        SpanBoard x = new SpanBoard(1);
        for (int p = 0; p < 3; p++) {
            x.hall(p, 2 - p);
            x.read(0, p);
            x.deliverAll(18);
            x.measured(p, 5);
        }
        return x;
    }

    private static void alarmWithoutCause() {
        Check.holds("Promise 25: no alarm in a hall that has no measured value", () -> {
            SpanBoard x = allHalls();
            SpanBoard y = new SpanBoard(1);
            y.read(0, 0);
            y.deliverAll(18);
            Check.due("alarm(0), measured", x.alarm(0), 0);
            Check.due("alarm(0), not measured", y.alarm(0), Steps.NONE);
        });
        Check.holds("Promise 25: no alarm in a hall that has no point", () -> {
            SpanBoard x = new SpanBoard(1);
            x.read(0, 0);
            x.deliverAll(18);
            x.measured(2, 5);
            Check.due("alarm(0)", x.alarm(0), Steps.NONE);
            x.hall(0, 2);
            Check.due("alarm(0), the point is there", x.alarm(0), 2);
        });
        Check.holds("Promise 25: no alarm of a point of which no reader answered a pair", () -> {
            SpanBoard x = new SpanBoard(1);
            x.write(0, 1, 1);
            x.deliverAll(18);
            x.measured(0, 5);
            Check.due("alarm(0), only written", x.alarm(0), Steps.NONE);
            SpanBoard y = Scenes.busy();
            y.measured(0, 50);
            Check.due("alarm(0), BUSY", y.alarm(0), Steps.NONE);
        });
    }

    private static void alarmAtTheSpansEnds() {
        int least = Integer.MIN_VALUE;
        int most = Integer.MAX_VALUE;
        Check.holds("Promise 25: a span without that value, its ends being in it", () -> {
            int[][] wellAndNot = {{5, 9, 5, 9, 4, 10}, {-3, -3, -3, -3, -4, -2}, {0, 0, 0, 0, -1, 1},
                {least, least, least, least, least + 1, most}, {most, most, most, most, most - 1, least},
                {least + 1, most - 1, least + 1, most - 1, least, most}};
            for (int[] row : wellAndNot) {
                SpanBoard x = new SpanBoard(1);
                x.write(0, row[0], row[1]);
                x.deliverAll(18);
                x.read(0, 0);
                x.deliverAll(18);
                for (int n = 2; n < 6; n++) {
                    x.measured(0, row[n]);
                    String call = "alarm(0) with " + row[n] + " of " + row[0] + " .. " + row[1];
                    Check.due(call, x.alarm(0), n < 4 ? Steps.NONE : 0);
                }
            }
        });
        Check.holds("Promise 25: the widest span has every value", () -> {
            SpanBoard x = new SpanBoard(1);
            x.write(0, least, most);
            x.deliverAll(18);
            x.read(0, 0);
            x.deliverAll(18);
            for (int value : new int[] {least, -1, 0, 1, most}) {
                x.measured(0, value);
                Check.due("alarm(0) with " + value, x.alarm(0), Steps.NONE);
            }
        });
    }
}
