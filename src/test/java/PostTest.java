/** Promises 7 to 12: the post and its letters. */
public final class PostTest {
    public static void main(String[] args) {
        letter();
        deliver();
        deliverAll();
        lose();
        twin();
        full();
        roomOfTheDelivered();
        nextRoundInAFullPost();
        wrongPlaces();
        Check.end();
    }

    private static void row(SpanBoard x, int i, int kind, int recorder, int point, int reader, int number) {
        int[] due = {kind, recorder, point, reader, number};
        for (int what = 0; what < 5; what++) {
            Check.due("letter(" + i + ", " + what + ")", x.letter(i, what), due[what]);
        }
        Check.due("letter(" + i + ", 5)", x.letter(i, 5), Steps.NONE);
        Check.due("letter(" + i + ", -1)", x.letter(i, -1), Steps.NONE);
    }

    private static void letter() {
        SpanBoard x = new SpanBoard(1);
        x.read(2, 1);
        x.write(3, 4, 5);
        x.deliver(0);
        x.deliver(8);
        Check.due("letters()", x.letters(), 18);
        row(x, 0, Steps.ASK, 1, 1, 2, 1);
        row(x, 7, Steps.ASK, 8, 1, 2, 1);
        row(x, 8, Steps.STORE, 1, 3, Steps.NONE, 1);
        row(x, 16, Steps.TELL, 0, 1, 2, 1);
        row(x, 17, Steps.RECEIPT, 0, 3, Steps.NONE, 1);
    }

    private static void deliver() {
        SpanBoard x = new SpanBoard(1);
        x.write(0, 1, 1);
        Check.yes("deliver(4)", x.deliver(4));
        Check.due("letters()", x.letters(), 9);
        int[] order = {0, 1, 2, 3, 5, 6, 7, 8, 4};
        for (int i = 0; i < 9; i++) {
            Check.due("letter(i, 1)", x.letter(i, 1), order[i]);
        }
        Check.due("held(4, 0, 0)", x.held(4, 0, 0), 1);
        Check.due("held(5, 0, 0)", x.held(5, 0, 0), 0);
        Check.yes("deliver(8)", x.deliver(8));
        Check.due("letters() after the receipt", x.letters(), 8);
        Check.due("writer(0, 2)", x.writer(0, 2), 1);
        Check.no("deliver(8), none there", x.deliver(8));
    }

    private static void deliverAll() {
        SpanBoard x = new SpanBoard(1);
        Check.due("deliverAll(5) of nothing", x.deliverAll(5), 0);
        x.write(0, 1, 1);
        Check.due("deliverAll(0)", x.deliverAll(0), 0);
        Check.due("deliverAll(-1)", x.deliverAll(-1), 0);
        Check.due("deliverAll(MIN)", x.deliverAll(Integer.MIN_VALUE), 0);
        Check.due("letters()", x.letters(), 9);
        Check.due("deliverAll(2)", x.deliverAll(2), 2);
        Check.due("held(1, 0, 0)", x.held(1, 0, 0), 1);
        Check.due("held(2, 0, 0)", x.held(2, 0, 0), 0);
        Check.due("deliverAll(8)", x.deliverAll(8), 8);
        Check.due("writer(0, 2), one receipt reached", x.writer(0, 2), 1);
        Check.due("deliverAll(MAX)", x.deliverAll(Integer.MAX_VALUE), 8);
        Check.due("letters() in the end", x.letters(), 0);
    }

    private static void lose() {
        SpanBoard x = new SpanBoard(1);
        x.write(0, 1, 1);
        Check.yes("lose(3)", x.lose(3));
        Check.due("letters()", x.letters(), 8);
        Check.due("letter(2, 1)", x.letter(2, 1), 2);
        Check.due("letter(3, 1)", x.letter(3, 1), 4);
        Check.yes("lose(7)", x.lose(7));
        Check.no("lose(7), none there", x.lose(7));
        x.deliverAll(99);
        Check.due("held(3, 0, 0)", x.held(3, 0, 0), 0);
        Check.due("held(8, 0, 0)", x.held(8, 0, 0), 0);
        Check.due("held(7, 0, 0)", x.held(7, 0, 0), 1);
    }

    private static void twin() {
        SpanBoard x = new SpanBoard(1);
        x.write(2, 6, 7);
        Check.yes("twin(5)", x.twin(5));
        Check.due("letters()", x.letters(), 10);
        row(x, 5, Steps.STORE, 5, 2, Steps.NONE, 1);
        row(x, 9, Steps.STORE, 5, 2, Steps.NONE, 1);
        x.deliver(9);
        Check.due("held(5, 2, 2) from the twin", x.held(5, 2, 2), 7);
        x.lose(5);
        Check.yes("twin(8) of a receipt", x.twin(8));
        row(x, 9, Steps.RECEIPT, 5, 2, Steps.NONE, 1);

        SpanBoard y = new SpanBoard(1);
        Steps.writeWhole(y, 0, 3, 3);
        y.read(0, 0);
        for (int i = 0; i < 9; i++) {
            y.deliver(0);
            y.twin(8);
            y.lose(8);
            row(y, 8, Steps.TELL, i, 0, 0, 1);
        }
        y.deliverAll(9);
        Check.due("answered(0, 3) from twins", y.answered(0, 3), 3);
    }

    private static void full() {
        SpanBoard x = new SpanBoard(1);
        x.write(0, 1, 1);
        x.lie(7);
        x.read(1, 1);
        Steps.fill(x, 0);
        Check.no("twin(0) with 300", x.twin(0));
        Check.no("twin(299) with 300", x.twin(299));
        Check.due("storeAgain(0) with 300", x.storeAgain(0), 9);
        Check.due("askAgain(1) with 300", x.askAgain(1), 9);
        Check.due("write(1, 1, 1) with 300", x.write(1, 1, 1), 1);
        Check.due("read(0, 0) with 300", x.read(0, 0), 1);
        Check.yes("tell with 300", x.tell(7, 1, 1, 1, 1));
        Check.yes("receipt with 300", x.receipt(7, 0));
        Check.due("letters()", x.letters(), 300);
        row(x, 299, Steps.STORE, 2, 0, Steps.NONE, 1);
        Check.due("letter(300, 0)", x.letter(300, 0), Steps.NONE);
        x.lose(0);
        x.lose(0);
        x.lose(0);
        Check.due("storeAgain(1) with 297", x.storeAgain(1), 9);
        Check.due("letters() after it", x.letters(), 300);
        row(x, 296, Steps.STORE, 2, 0, Steps.NONE, 1);
        row(x, 297, Steps.STORE, 0, 1, Steps.NONE, 1);
        row(x, 299, Steps.STORE, 2, 1, Steps.NONE, 1);
        x.lose(299);
        Check.yes("twin(0) with 299", x.twin(0));
        Check.due("letters() in the end", x.letters(), 300);
    }

    /** A letter that has come is no more on its way: what it causes has room in a post of 300. */
    private static void roomOfTheDelivered() {
        SpanBoard x = new SpanBoard(1);
        x.write(0, 1, 1);
        Steps.fill(x, 0);
        x.deliver(3);
        Check.due("letters()", x.letters(), 300);
        row(x, 299, Steps.RECEIPT, 3, 0, Steps.NONE, 1);
    }

    private static void nextRoundInAFullPost() {
        SpanBoard x = Steps.divided(2);
        x.read(0, 0);
        x.tell(7, 0, 100, 1, 1);
        x.tell(8, 0, 101, 1, 1);
        x.deliverAll(15);
        row(x, 0, Steps.TELL, 4, 0, 0, 1);
        Steps.fill(x, 0);
        x.lose(299);
        x.deliver(0);
        Check.due("reader(0, 1)", x.reader(0, 1), 2);
        Check.due("letters()", x.letters(), 300);
        row(x, 298, Steps.ASK, 0, 0, 0, 2);
        row(x, 299, Steps.ASK, 1, 0, 0, 2);
    }

    private static void wrongPlaces() {
        SpanBoard x = new SpanBoard(1);
        for (int round = 0; round < 2; round++) {
            int[] wrong = {-1, x.letters(), 300, Integer.MIN_VALUE, Integer.MAX_VALUE};
            int before = x.letters();
            for (int i : wrong) {
                Check.due("letter(" + i + ", 0)", x.letter(i, 0), Steps.NONE);
                Check.no("deliver(" + i + ")", x.deliver(i));
                Check.no("lose(" + i + ")", x.lose(i));
                Check.no("twin(" + i + ")", x.twin(i));
            }
            Check.due("letters()", x.letters(), before);
            x.write(0, 1, 1);
        }
    }
}
