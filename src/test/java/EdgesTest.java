/** Each sentence of a promise that has an edge at which the call is still not refused. */
public final class EdgesTest {
    public static void main(String[] args) {
        halls();
        write();
        read();
        storeAgain();
        askAgain();
        firstAndLastPlace();
        deliverAll();
        liars();
        liarsReceipts();
        allRecorders();
        forget();
        latest();
        Check.end();
    }

    private static void halls() {
        Check.holds("Promise 2: true, if it is the hall that the point has, too", () -> {
            SpanBoard x = new SpanBoard(1);
            Check.yes("hall(0, 0)", x.hall(0, 0));
            Check.yes("hall(3, 2)", x.hall(3, 2));
            Check.yes("hall(3, 2) again", x.hall(3, 2));
        });
        Check.holds("Promise 24: true, whatever the value", () -> {
            SpanBoard x = new SpanBoard(1);
            int[] values = {0, 0, -1, Integer.MIN_VALUE, Integer.MAX_VALUE};
            for (int value : values) {
                Check.yes("measured(2, " + value + ")", x.measured(2, value));
            }
        });
        Check.holds("Promise 24: the value is another one, and the one before is gone", () -> {
            SpanBoard x = new SpanBoard(1);
            x.read(0, 0);
            x.deliverAll(18);
            x.measured(0, 1);
            Check.due("alarm(0) with 1", x.alarm(0), 0);
            x.measured(0, 0);
            Check.due("alarm(0) with 0", x.alarm(0), Steps.NONE);
        });
    }

    private static void write() {
        Check.holds("Promise 3: a write that is just finished is not open, the next one begins", () -> {
            SpanBoard x = new SpanBoard(1);
            x.write(0, 1, 1);
            x.deliverAll(15);
            Check.due("write(0, 2, 2) with six receipts", x.write(0, 2, 2), Steps.NONE);
            x.deliverAll(1);
            Check.due("write(0, 2, 2) with seven", x.write(0, 2, 2), 2);
            Check.due("writer(0, 2), nothing receipted", x.writer(0, 2), 0);
            Check.due("storeAgain(0), all of them", x.storeAgain(0), 9);
        });
        Check.holds("Promise 3: the number is the next one, a refused write takes none", () -> {
            SpanBoard x = new SpanBoard(1);
            Check.due("write(0, 2, 1)", x.write(0, 2, 1), Steps.NONE);
            Check.due("write(0, 1, 1)", x.write(0, 1, 1), 1);
            Check.due("write(0, 1, 1), open", x.write(0, 1, 1), Steps.NONE);
            x.deliverAll(18);
            Check.due("write(0, 1, 1)", x.write(0, 1, 1), 2);
        });
    }

    private static void read() {
        Check.holds("Promise 4: one that has just answered does not read, the next one begins", () -> {
            SpanBoard x = new SpanBoard(1);
            x.read(0, 0);
            x.deliverAll(15);
            Check.due("read(0, 1) with six answers", x.read(0, 1), Steps.NONE);
            x.deliverAll(1);
            Check.due("read(0, 1) with seven", x.read(0, 1), 2);
            Check.due("reader(0, 2), nothing answered", x.reader(0, 2), 0);
            Check.due("askAgain(0), all of them", x.askAgain(0), 9);
        });
        Check.holds("Promise 4: several readers may read one point", () -> {
            SpanBoard x = new SpanBoard(1);
            for (int r = 0; r < 3; r++) {
                Check.due("read(" + r + ", 2)", x.read(r, 2), 1);
            }
            Check.due("letters()", x.letters(), 27);
        });
    }

    private static void storeAgain() {
        Check.holds("Promise 5: all of which there is no receipt, nine at most and three at least", () -> {
            SpanBoard x = new SpanBoard(1);
            x.write(2, 1, 1);
            x.deliverAll(9);
            for (int receipts = 0; receipts < 7; receipts++) {
                Check.due("storeAgain(2) with " + receipts, x.storeAgain(2), 9 - receipts);
                int last = x.letters() - 1;
                Check.due("the first it goes to", x.letter(last - 8 + receipts, 1), receipts);
                Check.due("the last it goes to", x.letter(last, 1), 8);
                x.deliver(0);
            }
            Check.due("storeAgain(2) with seven", x.storeAgain(2), Steps.NONE);
        });
    }

    private static void askAgain() {
        Check.holds("Promise 6: all that have not answered, nine at most and three at least", () -> {
            SpanBoard x = new SpanBoard(1);
            x.read(2, 1);
            x.deliverAll(9);
            for (int answers = 0; answers < 7; answers++) {
                Check.due("askAgain(2) with " + answers, x.askAgain(2), 9 - answers);
                int last = x.letters() - 1;
                Check.due("the first it goes to", x.letter(last - 8 + answers, 1), answers);
                Check.due("the last it goes to", x.letter(last, 1), 8);
                x.deliver(0);
            }
            Check.due("askAgain(2) with seven", x.askAgain(2), Steps.NONE);
        });
    }

    /** The middle scene's post: STORE to 3 first, of point 1; TELL of 2 last, at 13, to reader 0. */
    private static void firstAndLastPlace() {
        Check.holds("Promise 9: the first and the last letter can be delivered", () -> {
            SpanBoard x = Scenes.middle();
            Check.yes("deliver(13)", x.deliver(13));
            Check.due("letters()", x.letters(), 13);
            Check.due("reader(0, 2)", x.reader(0, 2), 3);
            Check.yes("deliver(0)", x.deliver(0));
            Check.due("letters(), and a RECEIPT", x.letters(), 13);
            Check.due("held(3, 1, 0)", x.held(3, 1, 0), 1);
            Check.due("letter(0, 1)", x.letter(0, 1), 4);
        });
        Check.holds("Promise 11: the first and the last letter can be lost", () -> {
            SpanBoard x = Scenes.middle();
            Check.yes("lose(13)", x.lose(13));
            Check.yes("lose(0)", x.lose(0));
            Check.due("letters()", x.letters(), 12);
            Steps.row(x, 0, Steps.STORE, 4, 1, Steps.NONE, 1);
            Steps.row(x, 11, Steps.ASK, 8, 0, 0, 1);
            Check.due("held(3, 1, 0)", x.held(3, 1, 0), 0);
            Check.due("reader(0, 2)", x.reader(0, 2), 2);
        });
        Check.holds("Promise 12: the first and the last letter can have a twin, a twin too", () -> {
            SpanBoard x = Scenes.middle();
            Check.yes("twin(13)", x.twin(13));
            Check.yes("twin(0)", x.twin(0));
            Check.yes("twin(15)", x.twin(15));
            Steps.row(x, 13, Steps.TELL, 2, 0, 0, 1);
            Steps.row(x, 14, Steps.TELL, 2, 0, 0, 1);
            Steps.row(x, 15, Steps.STORE, 3, 1, Steps.NONE, 1);
            Steps.row(x, 16, Steps.STORE, 3, 1, Steps.NONE, 1);
            Check.due("letters()", x.letters(), 17);
        });
    }

    private static void deliverAll() {
        Check.holds("Promise 10: the first n letters and no more", () -> {
            for (int n = 0; n <= 9; n++) {
                SpanBoard x = new SpanBoard(1);
                x.write(0, 1, 1);
                Check.due("deliverAll(" + n + ")", x.deliverAll(n), n);
                for (int r = 0; r < 9; r++) {
                    Check.due("held(" + r + ", 0, 0) after " + n, x.held(r, 0, 0), r < n ? 1 : 0);
                }
                Check.due("letters()", x.letters(), 9);
            }
        });
        Check.holds("Promise 10: those that are sent by them come if they are reached", () -> {
            for (int n = 10; n <= 18; n++) {
                SpanBoard x = new SpanBoard(1);
                x.write(0, 1, 1);
                Check.due("deliverAll(" + n + ")", x.deliverAll(n), n);
                Check.due("writer(0, 2) after " + n, x.writer(0, 2), Math.min(n - 9, 7));
                Check.due("letters()", x.letters(), 18 - n);
            }
        });
        Check.holds("Promise 10: how many, if there are fewer than n", () -> {
            for (int n : new int[] {19, 300, 301, Integer.MAX_VALUE}) {
                SpanBoard x = new SpanBoard(1);
                x.write(0, 1, 1);
                Check.due("deliverAll(" + n + ")", x.deliverAll(n), 18);
                Check.due("letters()", x.letters(), 0);
            }
        });
        Check.holds("Promise 10: those that are lost as they come count", () -> {
            SpanBoard x = new SpanBoard(1);
            x.crash(0);
            x.lie(1);
            x.write(0, 1, 1);
            Check.due("deliverAll(3)", x.deliverAll(3), 3);
            Check.due("letters()", x.letters(), 7);
        });
        Check.holds("Promise 10: a round that begins meanwhile is reached as well", () -> {
            SpanBoard x = Steps.divided(2);
            x.read(0, 0);
            x.tell(7, 0, 100, 1, 1);
            x.tell(8, 0, 101, 1, 1);
            Check.due("deliverAll(MAX)", x.deliverAll(Integer.MAX_VALUE), 9 + 7 + 9 + 5);
            Check.due("reader(0, 1)", x.reader(0, 1), 2);
            Check.due("reader(0, 2)", x.reader(0, 2), 5);
        });
    }

    private static void liars() {
        Check.holds("Promise 13: there may be two liars", () -> {
            for (int r = 0; r < 9; r++) {
                SpanBoard x = new SpanBoard(1);
                Check.yes("lie(" + r + ")", x.lie(r));
                Check.yes("lie of another", x.lie((r + 4) % 9));
                Check.no("lie of a third", x.lie((r + 8) % 9));
            }
        });
        Check.holds("Promise 13: one that is down may be a liar, and is one when it comes up", () -> {
            SpanBoard x = new SpanBoard(1);
            x.write(0, 1, 1);
            x.crash(5);
            Check.yes("lie(5)", x.lie(5));
            Check.no("receipt(5, 0), down", x.receipt(5, 0));
            x.restart(5);
            Check.yes("receipt(5, 0), up", x.receipt(5, 0));
        });
    }

    private static void liarsReceipts() {
        Check.holds("Promise 15: the latest write, open or not", () -> {
            SpanBoard x = Scenes.oneLiar();
            for (int n = 1; n <= 2; n++) {
                x.write(0, 1, 1);
                Check.yes("receipt(7, 0), open", x.receipt(7, 0));
                Steps.row(x, 9, Steps.RECEIPT, 7, 0, Steps.NONE, n);
                x.deliverAll(99);
                Check.yes("receipt(7, 0), finished", x.receipt(7, 0));
                Steps.row(x, 0, Steps.RECEIPT, 7, 0, Steps.NONE, n);
                x.deliverAll(1);
            }
        });
        Check.holds("Promise 14: it is for the present question, in a later round too", () -> {
            SpanBoard x = Steps.divided(2);
            x.read(0, 0);
            Steps.disagree(x, 0);
            Check.yes("tell(7, 0, 1, 1, 1)", x.tell(7, 0, 1, 1, 1));
            Steps.row(x, 9, Steps.TELL, 7, 0, 0, 2);
        });
    }

    private static void allRecorders() {
        Check.holds("Promises 16 and 17: all recorders may be down, and come up again", () -> {
            SpanBoard x = new SpanBoard(1);
            for (int r = 0; r < 9; r++) {
                Check.yes("crash(" + r + ")", x.crash(r));
            }
            x.write(0, 1, 1);
            Check.due("deliverAll(99), all lost", x.deliverAll(99), 9);
            for (int r = 8; r >= 0; r--) {
                Check.yes("restart(" + r + ")", x.restart(r));
            }
            Check.due("storeAgain(0)", x.storeAgain(0), 9);
            Check.due("deliverAll(99)", x.deliverAll(99), 18);
        });
    }

    private static void forget() {
        Check.holds("Promise 18: true, if there is nothing to forget too", () -> {
            SpanBoard x = new SpanBoard(1);
            Check.yes("forget(0), never written", x.forget(0));
            x.write(0, 1, 1);
            Check.yes("forget(0), no receipt yet", x.forget(0));
            Check.due("writer(0, 1)", x.writer(0, 1), 1);
        });
        Check.holds("Promise 18: a finished write stays finished, its receipts are forgotten", () -> {
            SpanBoard x = new SpanBoard(1);
            x.write(0, 1, 1);
            x.deliverAll(18);
            Check.yes("forget(0)", x.forget(0));
            int[] due = {1, 0, 0, 1};
            for (int what = 0; what < 4; what++) {
                Check.due("writer(0, " + what + ")", x.writer(0, what), due[what]);
            }
        });
    }

    private static void latest() {
        Check.holds("Promise 19: of the latest time", () -> {
            SpanBoard x = Scenes.busy();
            Check.due("outcome(0), BUSY", x.outcome(0), 3);
            x.read(0, 0);
            Check.due("outcome(0), it reads", x.outcome(0), 1);
            Steps.restart(x, 5, 6);
            x.deliverAll(99);
            Check.due("outcome(0), a pair", x.outcome(0), 2);
            x.read(0, 0);
            Check.due("outcome(0), it reads again", x.outcome(0), 1);
        });
        Check.holds("Promise 20: what it answered latest that was a pair, BUSY or reading since", () -> {
            SpanBoard x = Steps.divided(1);
            x.read(0, 3);
            Steps.restart(x, 5, 6);
            x.deliverAll(99);
            Steps.answer(x, 0, 3, 0, 0, 0);
            Steps.crash(x, 5, 6);
            x.read(0, 0);
            Check.due("answered(0, 0), it reads", x.answered(0, 0), 3);
            Steps.disagree(x, 0);
            Check.due("answered(0, 0), BUSY", x.answered(0, 0), 3);
        });
    }
}
