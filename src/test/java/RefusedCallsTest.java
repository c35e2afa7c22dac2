/**
 * Each sentence that says when a call that would change something answers NONE or false: then it
 * does, and nothing happens. Promises 2 to 6, 9 to 18 and 24.
 */
public final class RefusedCallsTest {
    private static final int[] BELOW_ZERO = {-1, -2, Integer.MIN_VALUE};

    public static void main(String[] args) {
        hall();
        write();
        read();
        storeAgain();
        askAgain();
        placesInThePost();
        deliverAll();
        twin();
        lie();
        tellByWhom();
        tellToWhom();
        tellWhat();
        receipt();
        crash();
        restart();
        forget();
        measured();
        Check.end();
    }

    private static void hall() {
        Check.holds("Promise 2: false if there is no such point", () -> {
            for (int p : Steps.NO_POINT) {
                Refused.no("hall(" + p + ", 1)", Scenes::middle, x -> x.hall(p, 1));
            }
        });
        Check.holds("Promise 2: false if there is no such hall", () -> {
            for (int h : Steps.NO_HALL) {
                Refused.no("hall(0, " + h + ")", Scenes::middle, x -> x.hall(0, h));
            }
        });
    }

    private static void write() {
        Check.holds("Promise 3: NONE, and nothing happens, if there is no such point", () -> {
            for (int p : Steps.NO_POINT) {
                Refused.none("write(" + p + ", 1, 2)", Scenes::middle, x -> x.write(p, 1, 2));
            }
        });
        Check.holds("Promise 3: NONE, and nothing happens, if a write is open", () -> {
            Refused.none("write(1, 1, 2)", Scenes::middle, x -> x.write(1, 1, 2));
            Refused.none("write(1, 3, 6), the same", Scenes::middle, x -> x.write(1, 3, 6));
            Refused.none("write(0, 1, 2), open and sent often", Scenes::full, x -> x.write(0, 1, 2));
        });
        Check.holds("Promise 3: NONE, and nothing happens, if low is above high", () -> {
            int[][] spans = {{3, 2}, {0, -1}, {1, Integer.MIN_VALUE}, {Integer.MAX_VALUE, -2},
                {Integer.MAX_VALUE, Integer.MIN_VALUE}};
            for (int[] span : spans) {
                String call = "write(p, " + span[0] + ", " + span[1] + ")";
                Refused.none(call, Scenes::middle, x -> x.write(0, span[0], span[1]));
                Refused.none(call, Scenes::middle, x -> x.write(3, span[0], span[1]));
            }
        });
    }

    private static void read() {
        Check.holds("Promise 4: NONE, and nothing happens, if there is no such reader", () -> {
            for (int r : Steps.NO_READER) {
                Refused.none("read(" + r + ", 0)", Scenes::middle, x -> x.read(r, 0));
            }
        });
        Check.holds("Promise 4: NONE, and nothing happens, if there is no such point", () -> {
            for (int p : Steps.NO_POINT) {
                Refused.none("read(2, " + p + ")", Scenes::middle, x -> x.read(2, p));
            }
        });
        Check.holds("Promise 4: NONE, and nothing happens, if it reads", () -> {
            for (int point = 0; point < 4; point++) {
                int p = point;
                Refused.none("read(0, " + p + ")", Scenes::middle, x -> x.read(0, p));
            }
        });
    }

    private static void storeAgain() {
        Check.holds("Promise 5: NONE if there is no such point", () -> {
            for (int p : Steps.NO_POINT) {
                Refused.none("storeAgain(" + p + ")", Scenes::middle, x -> x.storeAgain(p));
            }
        });
        Check.holds("Promise 5: NONE if no write is open", () -> {
            Refused.none("storeAgain(0), finished", Scenes::middle, x -> x.storeAgain(0));
            Refused.none("storeAgain(0), finished and forgotten", RefusedCallsTest::forgotten,
                x -> x.storeAgain(0));
            Refused.none("storeAgain(3), never written", Scenes::middle, x -> x.storeAgain(3));
        });
    }

    private static SpanBoard forgotten() {
        SpanBoard x = Scenes.middle();
        x.forget(0);
        return x;
    }

    private static void askAgain() {
        Check.holds("Promise 6: NONE if there is no such reader", () -> {
            for (int r : Steps.NO_READER) {
                Refused.none("askAgain(" + r + ")", Scenes::middle, x -> x.askAgain(r));
            }
        });
        Check.holds("Promise 6: NONE if it does not read", () -> {
            Refused.none("askAgain(2), nothing yet", Scenes::middle, x -> x.askAgain(2));
            Refused.none("askAgain(1), a pair answered", Scenes::middle, x -> x.askAgain(1));
            Refused.none("askAgain(0), BUSY", Scenes::busy, x -> x.askAgain(0));
        });
    }

    /** The middle scene has 14 letters, a new board has none, the full one 300. */
    private static void placesInThePost() {
        int[] wrong = {-1, 14, 15, 299, 300, Integer.MIN_VALUE, Integer.MAX_VALUE};
        Check.holds("Promise 9: false if there is none (deliver)", () -> {
            for (int i : wrong) {
                Refused.no("deliver(" + i + ")", Scenes::middle, x -> x.deliver(i));
            }
            Refused.no("deliver(0), empty", Scenes::oneLiar, x -> x.deliver(0));
            Refused.no("deliver(300), full", Scenes::full, x -> x.deliver(300));
        });
        Check.holds("Promise 11: false if there is none (lose)", () -> {
            for (int i : wrong) {
                Refused.no("lose(" + i + ")", Scenes::middle, x -> x.lose(i));
            }
            Refused.no("lose(0), empty", Scenes::oneLiar, x -> x.lose(0));
            Refused.no("lose(300), full", Scenes::full, x -> x.lose(300));
        });
        Check.holds("Promise 12: false if there is none such (twin)", () -> {
            for (int i : wrong) {
                Refused.no("twin(" + i + ")", Scenes::middle, x -> x.twin(i));
            }
            Refused.no("twin(0), empty", Scenes::oneLiar, x -> x.twin(0));
            Refused.no("twin(299), one place is free", Scenes::almostFull, x -> x.twin(299));
        });
    }

    private static void deliverAll() {
        Check.holds("Promise 10: the first n letters come, which of n 0 or less are none", () -> {
            Refused.zero("deliverAll(0)", Scenes::middle, x -> x.deliverAll(0));
            for (int n : BELOW_ZERO) {
                Refused.zero("deliverAll(" + n + ")", Scenes::middle, x -> x.deliverAll(n));
            }
        });
        Check.holds("Promise 10: the first n letters come, which of an empty post are none", () -> {
            Refused.zero("deliverAll(1)", Scenes::oneLiar, x -> x.deliverAll(1));
            Refused.zero("deliverAll(MAX)", Scenes::oneLiar, x -> x.deliverAll(Integer.MAX_VALUE));
        });
    }

    private static void twin() {
        Check.holds("Promise 12: false if there are 300", () -> {
            Refused.no("twin(0)", Scenes::full, x -> x.twin(0));
            Refused.no("twin(150)", Scenes::full, x -> x.twin(150));
            Refused.no("twin(299)", Scenes::full, x -> x.twin(299));
            Refused.no("twin(300)", Scenes::full, x -> x.twin(300));
        });
    }

    private static void lie() {
        Check.holds("Promise 13: false if there is none such", () -> {
            for (int r : Steps.NO_RECORDER) {
                Refused.no("lie(" + r + ")", Scenes::oneLiar, x -> x.lie(r));
            }
        });
        Check.holds("Promise 13: false if it is one", () -> {
            Refused.no("lie(7), the only one", Scenes::oneLiar, x -> x.lie(7));
            Refused.no("lie(7), the first of two", Scenes::middle, x -> x.lie(7));
            Refused.no("lie(8), the second of two", Scenes::middle, x -> x.lie(8));
        });
        Check.holds("Promise 13: false if there are two", () -> {
            for (int recorder = 0; recorder < 7; recorder++) {
                int r = recorder;
                Refused.no("lie(" + r + ")", Scenes::middle, x -> x.lie(r));
            }
        });
    }

    private static void tellByWhom() {
        Check.holds("Promise 14: false, and nothing happens, if it is none", () -> {
            for (int r : Steps.NO_RECORDER) {
                Refused.no("tell(" + r + ", 0, 1, 5, 9)", Scenes::middle, x -> x.tell(r, 0, 1, 5, 9));
            }
            for (int recorder = 0; recorder < 7; recorder++) {
                int r = recorder;
                Refused.no("tell(" + r + ", 0, 1, 5, 9)", Scenes::middle, x -> x.tell(r, 0, 1, 5, 9));
            }
        });
        Check.holds("Promise 14: false, and nothing happens, if it is down", () -> {
            Refused.no("tell(8, 0, 1, 5, 9)", Scenes::middle, x -> x.tell(8, 0, 1, 5, 9));
        });
    }

    private static void tellToWhom() {
        Check.holds("Promise 14: false, and nothing happens, if there is no such reader", () -> {
            for (int r : Steps.NO_READER) {
                Refused.no("tell(7, " + r + ", 1, 5, 9)", Scenes::middle, x -> x.tell(7, r, 1, 5, 9));
            }
        });
        Check.holds("Promise 14: false, and nothing happens, if it does not read", () -> {
            Refused.no("tell to one of nothing yet", Scenes::middle, x -> x.tell(7, 2, 1, 5, 9));
            Refused.no("tell to one that answered", Scenes::middle, x -> x.tell(7, 1, 1, 5, 9));
            Refused.no("tell to one that was BUSY", Scenes::busy, x -> x.tell(7, 0, 1, 5, 9));
        });
    }

    private static void tellWhat() {
        Check.holds("Promise 14: false, and nothing happens, if the number is below 0", () -> {
            for (int number : BELOW_ZERO) {
                Refused.no("tell(7, 0, " + number + ", 5, 9)", Scenes::middle,
                    x -> x.tell(7, 0, number, 5, 9));
            }
        });
        Check.holds("Promise 14: false, and nothing happens, if low is above high", () -> {
            int[][] spans = {{9, 8}, {0, -1}, {Integer.MAX_VALUE, Integer.MIN_VALUE}};
            for (int[] span : spans) {
                Refused.no("tell(7, 0, 1, " + span[0] + ", " + span[1] + ")", Scenes::middle,
                    x -> x.tell(7, 0, 1, span[0], span[1]));
            }
        });
    }

    private static void receipt() {
        Check.holds("Promise 15: false, and nothing happens, if it is none", () -> {
            for (int r : Steps.NO_RECORDER) {
                Refused.no("receipt(" + r + ", 1)", Scenes::middle, x -> x.receipt(r, 1));
            }
            for (int recorder = 0; recorder < 7; recorder++) {
                int r = recorder;
                Refused.no("receipt(" + r + ", 1)", Scenes::middle, x -> x.receipt(r, 1));
            }
        });
        Check.holds("Promise 15: false, and nothing happens, if it is down", () -> {
            Refused.no("receipt(8, 1)", Scenes::middle, x -> x.receipt(8, 1));
        });
        Check.holds("Promise 15: false, and nothing happens, if there is no such point", () -> {
            for (int p : Steps.NO_POINT) {
                Refused.no("receipt(7, " + p + ")", Scenes::middle, x -> x.receipt(7, p));
            }
        });
        Check.holds("Promise 15: false, and nothing happens, if nothing was written", () -> {
            Refused.no("receipt(7, 2)", Scenes::middle, x -> x.receipt(7, 2));
            Refused.no("receipt(7, 3)", Scenes::middle, x -> x.receipt(7, 3));
            Refused.no("receipt(7, 0)", Scenes::oneLiar, x -> x.receipt(7, 0));
        });
    }

    private static void crash() {
        Check.holds("Promise 16: false if there is none such", () -> {
            for (int r : Steps.NO_RECORDER) {
                Refused.no("crash(" + r + ")", Scenes::middle, x -> x.crash(r));
            }
        });
        Check.holds("Promise 16: false if it is down", () -> {
            Refused.no("crash(6)", Scenes::middle, x -> x.crash(6));
            Refused.no("crash(8), a liar", Scenes::middle, x -> x.crash(8));
        });
    }

    private static void restart() {
        Check.holds("Promise 17: false if there is none such", () -> {
            for (int r : Steps.NO_RECORDER) {
                Refused.no("restart(" + r + ")", Scenes::middle, x -> x.restart(r));
            }
        });
        Check.holds("Promise 17: false if it is up", () -> {
            Refused.no("restart(0)", Scenes::middle, x -> x.restart(0));
            Refused.no("restart(7), a liar", Scenes::middle, x -> x.restart(7));
        });
    }

    private static void forget() {
        Check.holds("Promise 18: false if there is no such point", () -> {
            for (int p : Steps.NO_POINT) {
                Refused.no("forget(" + p + ")", Scenes::middle, x -> x.forget(p));
            }
        });
    }

    private static void measured() {
        Check.holds("Promise 24: false if there is no such hall", () -> {
            for (int h : Steps.NO_HALL) {
                Refused.no("measured(" + h + ", 7)", Scenes::middle, x -> x.measured(h, 7));
            }
        });
    }
}
