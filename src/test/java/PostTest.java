/** Promises 7 to 12: the post and its letters. */
public final class PostTest {
    public static void main(String[] args) {
        letter();
        deliver();
        deliverAll();
        lose();
        twin();
        Check.end();
    }

    private static void letter() {
        SpanBoard x = new SpanBoard(1);
        x.read(2, 1);
        x.write(3, 4, 5);
        x.deliver(0);
        x.deliver(8);
        Check.due("letters()", x.letters(), 18);
        Steps.row(x, 0, Steps.ASK, 1, 1, 2, 1);
        Steps.row(x, 7, Steps.ASK, 8, 1, 2, 1);
        Steps.row(x, 8, Steps.STORE, 1, 3, Steps.NONE, 1);
        Steps.row(x, 16, Steps.TELL, 0, 1, 2, 1);
        Steps.row(x, 17, Steps.RECEIPT, 0, 3, Steps.NONE, 1);
    }

    private static void deliver() {
        SpanBoard x = new SpanBoard(1);
        x.write(0, 1, 1);
        Check.yes("deliver(4)", x.deliver(4));
        Check.due("letters()", x.letters(), 9);
        int[] order = {0, 1, 2, 3, 5, 6, 7, 8, 4};
        for (int i = 0; i < 9; i++) {
            Check.due("letter(i, 1)", x.letter(i, 1), order[i]);
        }
        Check.due("held(4, 0, 0)", x.held(4, 0, 0), 1);
        Check.due("held(5, 0, 0)", x.held(5, 0, 0), 0);
        Check.yes("deliver(8)", x.deliver(8));
        Check.due("letters() after the receipt", x.letters(), 8);
        Check.due("writer(0, 2)", x.writer(0, 2), 1);
        Check.no("deliver(8), none there", x.deliver(8));
    }

    private static void deliverAll() {
        SpanBoard x = new SpanBoard(1);
        Check.due("deliverAll(5) of nothing", x.deliverAll(5), 0);
        x.write(0, 1, 1);
        Check.due("deliverAll(0)", x.deliverAll(0), 0);
        Check.due("deliverAll(-1)", x.deliverAll(-1), 0);
        Check.due("deliverAll(MIN)", x.deliverAll(Integer.MIN_VALUE), 0);
        Check.due("letters()", x.letters(), 9);
        Check.due("deliverAll(2)", x.deliverAll(2), 2);
        Check.due("held(1, 0, 0)", x.held(1, 0, 0), 1);
        Check.due("held(2, 0, 0)", x.held(2, 0, 0), 0);
        Check.due("deliverAll(8)", x.deliverAll(8), 8);
        Check.due("writer(0, 2), one receipt reached", x.writer(0, 2), 1);
        Check.due("deliverAll(MAX)", x.deliverAll(Integer.MAX_VALUE), 8);
        Check.due("letters() in the end", x.letters(), 0);
    }

    private static void lose() {
        SpanBoard x = new SpanBoard(1);
        x.write(0, 1, 1);
        Check.yes("lose(3)", x.lose(3));
        Check.due("letters()", x.letters(), 8);
        Check.due("letter(2, 1)", x.letter(2, 1), 2);
        Check.due("letter(3, 1)", x.letter(3, 1), 4);
        Check.yes("lose(7)", x.lose(7));
        Check.no("lose(7), none there", x.lose(7));
        x.deliverAll(99);
        Check.due("held(3, 0, 0)", x.held(3, 0, 0), 0);
        Check.due("held(8, 0, 0)", x.held(8, 0, 0), 0);
        Check.due("held(7, 0, 0)", x.held(7, 0, 0), 1);
    }

    private static void twin() {
        SpanBoard x = new SpanBoard(1);
        x.write(2, 6, 7);
        Check.yes("twin(5)", x.twin(5));
        Check.due("letters()", x.letters(), 10);
        Steps.row(x, 5, Steps.STORE, 5, 2, Steps.NONE, 1);
        Steps.row(x, 9, Steps.STORE, 5, 2, Steps.NONE, 1);
        x.deliver(9);
        Check.due("held(5, 2, 2) from the twin", x.held(5, 2, 2), 7);
        x.lose(5);
        Check.yes("twin(8) of a receipt", x.twin(8));
        Steps.row(x, 9, Steps.RECEIPT, 5, 2, Steps.NONE, 1);

        SpanBoard y = new SpanBoard(1);
        Steps.writeWhole(y, 0, 3, 3);
        y.read(0, 0);
        for (int i = 0; i < 9; i++) {
            y.deliver(0);
            y.twin(8);
            y.lose(8);
            Steps.row(y, 8, Steps.TELL, i, 0, 0, 1);
        }
        y.deliverAll(9);
        Check.due("answered(0, 3) from twins", y.answered(0, 3), 3);
    }
}
