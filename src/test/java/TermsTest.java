/** Each sentence of 'Terms' that tells a range, a first state, or the post's order and its end. */
public final class TermsTest {
    private static final int LEAST = Integer.MIN_VALUE;
    private static final int MOST = Integer.MAX_VALUE;

    public static void main(String[] args) {
        ranges();
        spans();
        firstStates();
        order();
        fullPostAndWrites();
        fullPostAndReads();
        fullPostAndLiars();
        fullPostAndWhatComes();
        fullPostAndTheNextRound();
        manyCalls();
        Check.end();
    }

    private static void ranges() {
        Check.holds("Terms: POINTS are 0 .. 3", () -> {
            SpanBoard x = Scenes.oneLiar();
            for (int p = 0; p < 4; p++) {
                Check.yes("hall(" + p + ", 1)", x.hall(p, 1));
                Check.due("write(" + p + ", 2, 3)", x.write(p, 2, 3), 1);
                Check.due("storeAgain(" + p + ")", x.storeAgain(p), 9);
                Check.yes("receipt(7, " + p + ")", x.receipt(7, p));
                Check.yes("forget(" + p + ")", x.forget(p));
                Check.due("deliverAll(99)", x.deliverAll(99), 35);
                Check.due("writer(" + p + ", 3)", x.writer(p, 3), 1);
                Check.due("held(0, " + p + ", 1)", x.held(0, p, 1), 2);
                Check.due("read(0, " + p + ")", x.read(0, p), p + 1);
                Check.due("deliverAll(99)", x.deliverAll(99), 17);
                Check.due("answered(0, 0)", x.answered(0, 0), p);
            }
        });
        Check.holds("Terms: RECORDERS are 0 .. 8", () -> {
            for (int r = 0; r < 9; r++) {
                SpanBoard x = new SpanBoard(1);
                Check.yes("crash(" + r + ")", x.crash(r));
                Check.yes("restart(" + r + ")", x.restart(r));
                x.write(0, 2, 3);
                x.read(0, 0);
                Check.due("letter(" + r + ", 1)", x.letter(r, 1), r);
                Check.due("letter(9 + " + r + ", 1)", x.letter(9 + r, 1), r);
                Check.due("deliverAll(9)", x.deliverAll(9), 9);
                Check.due("held(" + r + ", 0, 2)", x.held(r, 0, 2), 3);
                Check.yes("lie(" + r + ")", x.lie(r));
                Check.yes("tell(" + r + ", 0, 1, 1, 1)", x.tell(r, 0, 1, 1, 1));
                Check.yes("receipt(" + r + ", 0)", x.receipt(r, 0));
            }
        });
        Check.holds("Terms: READERS 0 .. 2", () -> {
            for (int r = 0; r < 3; r++) {
                SpanBoard x = Scenes.oneLiar();
                Check.due("read(" + r + ", 0)", x.read(r, 0), 1);
                Check.due("askAgain(" + r + ")", x.askAgain(r), 9);
                Check.yes("tell(7, " + r + ", 1, 1, 1)", x.tell(7, r, 1, 1, 1));
                Check.due("outcome(" + r + ")", x.outcome(r), 1);
                Check.due("reader(" + r + ", 0)", x.reader(r, 0), 1);
                x.deliverAll(99);
                Steps.answer(x, r, 0, 0, 0, 0);
            }
        });
        Check.holds("Terms: HALLS 0 .. 2", () -> {
            for (int h = 0; h < 3; h++) {
                SpanBoard x = new SpanBoard(1);
                x.read(0, 3);
                x.deliverAll(99);
                Check.yes("hall(3, " + h + ")", x.hall(3, h));
                Check.yes("measured(" + h + ", 1)", x.measured(h, 1));
                Check.due("alarm(0)", x.alarm(0), h);
            }
        });
    }

    private static void spans() {
        Check.holds("Terms: a SPAN is low and high, low not above high", () -> {
            int[][] spans = {{0, 0}, {-1, -1}, {-1, 0}, {LEAST, LEAST}, {MOST, MOST}, {LEAST, MOST}};
            for (int[] span : spans) {
                SpanBoard x = Scenes.oneLiar();
                String ends = span[0] + ", " + span[1] + ")";
                Check.due("write(0, " + ends, x.write(0, span[0], span[1]), 1);
                x.deliverAll(99);
                Check.due("held(0, 0, 1) of " + ends, x.held(0, 0, 1), span[0]);
                Check.due("held(0, 0, 2) of " + ends, x.held(0, 0, 2), span[1]);
                x.read(0, 0);
                Check.yes("tell(7, 0, 1, " + ends, x.tell(7, 0, 1, span[0], span[1]));
                x.deliverAll(99);
                Steps.answer(x, 0, 0, 1, span[0], span[1]);
            }
        });
        Check.holds("Promise 14: a number of 0 is not below 0, and the greatest is fine too", () -> {
            SpanBoard x = Scenes.oneLiar();
            x.read(0, 0);
            Check.yes("tell(7, 0, 0, 0, 0)", x.tell(7, 0, 0, 0, 0));
            Check.yes("tell(7, 0, MAX, 0, 0)", x.tell(7, 0, MOST, 0, 0));
            Check.due("letters()", x.letters(), 11);
        });
    }

    private static void firstStates() {
        Check.holds("Terms: all recorders are up at first", () -> {
            SpanBoard x = new SpanBoard(1);
            for (int r = 0; r < 9; r++) {
                Check.no("restart(" + r + ")", x.restart(r));
                Check.yes("crash(" + r + ")", x.crash(r));
            }
        });
        Check.holds("Terms: all recorders are honest at first", () -> {
            for (int r = 0; r < 9; r++) {
                SpanBoard x = new SpanBoard(1);
                x.write(0, 1, 1);
                Check.no("receipt(" + r + ", 0)", x.receipt(r, 0));
                Check.yes("deliver(" + r + ")", x.deliver(r));
                Check.due("held(" + r + ", 0, 0)", x.held(r, 0, 0), 1);
                Check.yes("lie(" + r + ")", x.lie(r));
            }
        });
        Check.holds("Terms: a recorder's pair of each point is 0 and 0 0 at first", () -> {
            SpanBoard x = new SpanBoard(1);
            for (int n = 0; n < 9 * 4 * 3; n++) {
                Check.due("held, " + n, x.held(n / 12, n / 3 % 4, n % 3), 0);
            }
        });
        Check.holds("Terms: a writer's number is 0 before the first write, and 1 with it", () -> {
            SpanBoard x = new SpanBoard(1);
            for (int p = 0; p < 4; p++) {
                for (int what = 0; what < 4; what++) {
                    Check.due("writer(" + p + ", " + what + ")", x.writer(p, what), 0);
                }
                Check.due("write(" + p + ", 1, 1)", x.write(p, 1, 1), 1);
                Check.due("writer(" + p + ", 0)", x.writer(p, 0), 1);
            }
        });
        Check.holds("Terms: a question's number is 0 before the first question, and 1 with it", () -> {
            SpanBoard x = new SpanBoard(1);
            for (int r = 0; r < 3; r++) {
                Check.due("reader(" + r + ", 0)", x.reader(r, 0), 0);
                Check.due("read(" + r + ", 0)", x.read(r, 0), 1);
                Check.due("reader(" + r + ", 0)", x.reader(r, 0), 1);
            }
        });
        Check.holds("Terms: a reader remembers 0 and 0 0 of each point at first", () -> {
            SpanBoard x = new SpanBoard(1);
            for (int n = 0; n < 12; n++) {
                x.read(n / 4, n % 4);
                x.deliverAll(18);
                Steps.answer(x, n / 4, n % 4, 0, 0, 0);
            }
        });
    }

    private static void order() {
        Check.holds("Terms: what is sent comes behind the others", () -> {
            SpanBoard x = Scenes.middle();
            x.write(3, 1, 1);
            Steps.row(x, 13, Steps.TELL, 2, 0, 0, 1);
            Steps.row(x, 14, Steps.STORE, 0, 3, Steps.NONE, 1);
            x.read(2, 1);
            Steps.row(x, 23, Steps.ASK, 0, 1, 2, 1);
            x.tell(7, 0, 1, 1, 1);
            Steps.row(x, 32, Steps.TELL, 7, 0, 0, 1);
            x.receipt(7, 1);
            Steps.row(x, 33, Steps.RECEIPT, 7, 1, Steps.NONE, 1);
            x.deliver(0);
            Steps.row(x, 33, Steps.RECEIPT, 3, 1, Steps.NONE, 1);
            x.deliver(6);
            Steps.row(x, 33, Steps.TELL, 3, 0, 0, 1);
        });
        Check.holds("Terms: several recorders get it in the order of their numbers", () -> {
            SpanBoard x = Scenes.middle();
            Steps.loseAll(x);
            x.write(3, 1, 1);
            x.read(2, 3);
            Check.due("storeAgain(1)", x.storeAgain(1), 7);
            Check.due("askAgain(0)", x.askAgain(0), 7);
            for (int i = 0; i < 18; i++) {
                Check.due("letter(" + i + ", 1)", x.letter(i, 1), i % 9);
            }
            for (int i = 0; i < 14; i++) {
                Check.due("letter(18 + " + i + ", 1)", x.letter(18 + i, 1), 2 + i % 7);
            }
        });
    }

    /** The post is full and what was sent into it is lost: its last letter is the one it was. */
    private static void nothingWasAdded(SpanBoard x) {
        Check.due("letters()", x.letters(), 300);
        Steps.row(x, 299, Steps.STORE, 2, 0, Steps.NONE, 1);
    }

    private static void fullPostAndWrites() {
        Check.holds("Terms: if there are 300 it is lost (STORE of write)", () -> {
            SpanBoard x = Scenes.full();
            Check.due("write(3, 1, 1)", x.write(3, 1, 1), 1);
            nothingWasAdded(x);
            Check.due("writer(3, 1), it is open all the same", x.writer(3, 1), 1);
        });
        Check.holds("Terms: at most 300, of nine STOREs of write the first has room", () -> {
            SpanBoard x = Scenes.almostFull();
            Check.due("write(3, 1, 1)", x.write(3, 1, 1), 1);
            Check.due("letters()", x.letters(), 300);
            Steps.row(x, 299, Steps.STORE, 0, 3, Steps.NONE, 1);
        });
        Check.holds("Terms: if there are 300 it is lost (STORE of storeAgain)", () -> {
            SpanBoard x = Scenes.full();
            Check.due("storeAgain(0)", x.storeAgain(0), 9);
            nothingWasAdded(x);
        });
        Check.holds("Terms: at most 300, of nine STOREs of storeAgain the first has room", () -> {
            SpanBoard x = Scenes.almostFull();
            Check.due("storeAgain(0)", x.storeAgain(0), 9);
            Check.due("letters()", x.letters(), 300);
            Steps.row(x, 299, Steps.STORE, 0, 0, Steps.NONE, 1);
        });
    }

    private static void fullPostAndReads() {
        Check.holds("Terms: if there are 300 it is lost (ASK of read)", () -> {
            SpanBoard x = Scenes.full();
            Check.due("read(2, 3)", x.read(2, 3), 1);
            nothingWasAdded(x);
            Check.due("outcome(2), it reads all the same", x.outcome(2), 1);
        });
        Check.holds("Terms: at most 300, of nine ASKs of read the first has room", () -> {
            SpanBoard x = Scenes.almostFull();
            Check.due("read(2, 3)", x.read(2, 3), 1);
            Check.due("letters()", x.letters(), 300);
            Steps.row(x, 299, Steps.ASK, 0, 3, 2, 1);
        });
        Check.holds("Terms: if there are 300 it is lost (ASK of askAgain)", () -> {
            SpanBoard x = Scenes.full();
            Check.due("askAgain(1)", x.askAgain(1), 9);
            nothingWasAdded(x);
        });
        Check.holds("Terms: at most 300, of nine ASKs of askAgain the first has room", () -> {
            SpanBoard x = Scenes.almostFull();
            Check.due("askAgain(1)", x.askAgain(1), 9);
            Check.due("letters()", x.letters(), 300);
            Steps.row(x, 299, Steps.ASK, 0, 1, 1, 1);
        });
    }

    private static void fullPostAndLiars() {
        Check.holds("Terms: if there are 300 it is lost (TELL of tell)", () -> {
            SpanBoard x = Scenes.full();
            Check.yes("tell(7, 1, 2, 2, 2)", x.tell(7, 1, 2, 2, 2));
            nothingWasAdded(x);
        });
        Check.holds("Terms: at most 300, one TELL of tell has room", () -> {
            SpanBoard x = Scenes.almostFull();
            Check.yes("tell(7, 1, 2, 2, 2)", x.tell(7, 1, 2, 2, 2));
            Check.yes("tell(7, 1, 3, 3, 3)", x.tell(7, 1, 3, 3, 3));
            Check.due("letters()", x.letters(), 300);
            Steps.row(x, 299, Steps.TELL, 7, 1, 1, 1);
        });
        Check.holds("Terms: if there are 300 it is lost (RECEIPT of receipt)", () -> {
            SpanBoard x = Scenes.full();
            Check.yes("receipt(7, 0)", x.receipt(7, 0));
            nothingWasAdded(x);
        });
        Check.holds("Terms: at most 300, one RECEIPT of receipt has room", () -> {
            SpanBoard x = Scenes.almostFull();
            Check.yes("receipt(7, 0)", x.receipt(7, 0));
            Check.due("letters()", x.letters(), 300);
            Steps.row(x, 299, Steps.RECEIPT, 7, 0, Steps.NONE, 1);
        });
        Check.holds("Promise 12: with 299 there is room for a twin", () -> {
            SpanBoard x = Scenes.almostFull();
            Check.yes("twin(4)", x.twin(4));
            Check.due("letters()", x.letters(), 300);
            Steps.row(x, 299, Steps.STORE, 4, 0, Steps.NONE, 1);
        });
    }

    private static void fullPostAndWhatComes() {
        Check.holds("Promise 9: a letter that came is no more on its way, a RECEIPT has its room", () -> {
            SpanBoard x = Scenes.full();
            Check.yes("deliver(5)", x.deliver(5));
            Check.due("letters()", x.letters(), 300);
            Steps.row(x, 299, Steps.RECEIPT, 5, 0, Steps.NONE, 1);
        });
        Check.holds("Promise 9: a letter that came is no more on its way, a TELL has its room", () -> {
            SpanBoard x = new SpanBoard(1);
            x.read(2, 3);
            x.write(0, 1, 1);
            Steps.fill(x, 0);
            Check.yes("deliver(8)", x.deliver(8));
            Check.due("letters()", x.letters(), 300);
            Steps.row(x, 299, Steps.TELL, 8, 3, 2, 1);
        });
        Check.holds("Promise 10: all of a full post come, and what they send", () -> {
            SpanBoard y = Scenes.full();
            Check.due("deliverAll(MAX), all but a liar's are receipted", y.deliverAll(MOST), 567);
            Check.due("letters()", y.letters(), 0);
            SpanBoard x = new SpanBoard(1);
            x.write(0, 1, 1);
            Steps.fill(x, 0);
            Check.due("deliverAll(300)", x.deliverAll(300), 300);
            Check.due("letters(), the receipts", x.letters(), 300);
            Check.due("writer(0, 2), none has come", x.writer(0, 2), 0);
            Check.due("deliverAll(MAX)", x.deliverAll(MOST), 300);
            Check.due("letters()", x.letters(), 0);
            Check.due("writer(0, 2)", x.writer(0, 2), 7);
        });
    }

    private static void fullPostAndTheNextRound() {
        Check.holds("Terms: if there are 300 it is lost (ASK of the next round)", () -> {
            for (int free = 0; free < 3; free++) {
                SpanBoard x = Steps.divided(2);
                x.read(0, 0);
                x.tell(7, 0, 100, 1, 1);
                x.tell(8, 0, 101, 1, 1);
                x.deliverAll(15);
                Steps.fill(x, 0);
                for (int n = 0; n < free; n++) {
                    x.lose(299 - n);
                }
                Check.yes("deliver(0), the seventh answer", x.deliver(0));
                Check.due("reader(0, 1), its round", x.reader(0, 1), 2);
                Check.due("letters()", x.letters(), 300);
                for (int n = 0; n <= free; n++) {
                    Steps.row(x, 299 - free + n, Steps.ASK, n, 0, 0, 2);
                }
                Check.due("askAgain(0)", x.askAgain(0), 9);
            }
        });
    }

    private static void manyCalls() {
        Check.holds("What it is: an object is used for at most 512 calls", () -> {
            SpanBoard x = new SpanBoard(1);
            for (int n = 1; n <= 128; n++) {
                Check.due("write, the " + n + "th", x.write(0, n, n), n);
                Check.due("deliverAll of it", x.deliverAll(99), 18);
                Check.due("read, the " + n + "th", x.read(0, 0), n);
                Check.due("deliverAll of it", x.deliverAll(99), 18);
            }
        });
    }
}
