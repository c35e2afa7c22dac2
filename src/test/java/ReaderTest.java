/** Promises 4, 6, 19, 20 and 21: readers, and what they answer. */
public final class ReaderTest {
    public static void main(String[] args) {
        read();
        readsOfOthersAreFree();
        sevenAnswers();
        askAgain();
        busyInTheLastRound();
        nextRound();
        unwritten();
        Check.end();
    }

    private static void read() {
        SpanBoard x = new SpanBoard(1);
        Check.due("read(1, 3)", x.read(1, 3), 1);
        Check.due("letters()", x.letters(), 9);
        for (int i = 0; i < 9; i++) {
            Check.due("letter(i, 0)", x.letter(i, 0), Steps.ASK);
            Check.due("letter(i, 1)", x.letter(i, 1), i);
            Check.due("letter(i, 2)", x.letter(i, 2), 3);
            Check.due("letter(i, 3)", x.letter(i, 3), 1);
            Check.due("letter(i, 4)", x.letter(i, 4), 1);
        }
        Check.due("outcome(1)", x.outcome(1), 1);
        Check.due("reader(1, 1)", x.reader(1, 1), 1);
        Check.due("read(1, 3) while it reads", x.read(1, 3), Steps.NONE);
        Check.due("read(1, 0) while it reads", x.read(1, 0), Steps.NONE);
        Check.due("letters() after it", x.letters(), 9);
        Check.due("reader(1, 0) after it", x.reader(1, 0), 1);
        x.deliverAll(99);
        Check.due("the next read(1, 2)", x.read(1, 2), 2);
        Check.due("letter(0, 4)", x.letter(0, 4), 2);
        Check.due("answered(1, 0) while it reads", x.answered(1, 0), 3);
    }

    private static void readsOfOthersAreFree() {
        SpanBoard x = new SpanBoard(1);
        for (int r = 0; r < 3; r++) {
            Check.due("read(r, 0)", x.read(r, 0), 1);
        }
        Check.due("letters()", x.letters(), 27);
        Check.due("letter(26, 3)", x.letter(26, 3), 2);
        Check.due("reader(2, 0)", x.reader(2, 0), 1);
    }

    private static void sevenAnswers() {
        SpanBoard x = new SpanBoard(1);
        x.write(0, 3, 4);
        x.deliverAll(99);
        x.read(0, 0);
        x.deliverAll(9);
        for (int n = 0; n < 9; n++) {
            Check.due("letter(0, 0)", x.letter(0, 0), Steps.TELL);
            Check.due("letter(0, 2)", x.letter(0, 2), 0);
            Check.due("letter(0, 3)", x.letter(0, 3), 0);
            Check.due("letter(0, 4)", x.letter(0, 4), 1);
            Check.due("reader(0, 2)", x.reader(0, 2), n < 7 ? n : 0);
            Check.due("reader(0, 1)", x.reader(0, 1), n < 7 ? 1 : 0);
            Check.due("outcome(0)", x.outcome(0), n < 7 ? 1 : 2);
            x.twin(0);
            x.deliver(0);
            x.deliver(x.letters() - 1);
        }
        Steps.answer(x, 0, 0, 1, 3, 4);
        Check.due("reader(0, 0)", x.reader(0, 0), 1);
        Check.due("outcome(1) of another reader", x.outcome(1), 0);
        Check.due("answered(1, 0) of another reader", x.answered(1, 0), Steps.NONE);
    }

    private static void askAgain() {
        SpanBoard x = new SpanBoard(1);
        Check.due("askAgain(2) before a read", x.askAgain(2), Steps.NONE);
        x.read(2, 1);
        Steps.bring(x, Steps.ASK, 0, 2);
        Steps.bring(x, Steps.TELL, 1, 2);
        Steps.loseAll(x);
        Check.due("askAgain(2)", x.askAgain(2), 7);
        Check.due("letters()", x.letters(), 7);
        int[] due = {0, 3, 4, 5, 6, 7, 8};
        for (int i = 0; i < 7; i++) {
            Check.due("letter(i, 0)", x.letter(i, 0), Steps.ASK);
            Check.due("letter(i, 1)", x.letter(i, 1), due[i]);
            Check.due("letter(i, 2)", x.letter(i, 2), 1);
            Check.due("letter(i, 3)", x.letter(i, 3), 2);
            Check.due("letter(i, 4)", x.letter(i, 4), 1);
        }
        Check.due("reader(2, 2)", x.reader(2, 2), 2);
        x.deliverAll(99);
        Check.due("outcome(2)", x.outcome(2), 2);
        Check.due("askAgain(2) after the answer", x.askAgain(2), Steps.NONE);
        Check.due("letters() after it", x.letters(), 0);
    }

    private static void busyInTheLastRound() {
        SpanBoard x = Steps.divided(1);
        Steps.restart(x, 5, 6);
        x.write(3, 1, 6);
        x.deliverAll(99);
        x.read(0, 3);
        x.deliverAll(99);
        Steps.crash(x, 5, 6);
        x.read(0, 0);
        Steps.disagree(x, 0);
        Check.due("outcome(0)", x.outcome(0), 3);
        Check.due("letters()", x.letters(), 0);
        Check.due("reader(0, 0)", x.reader(0, 0), 2);
        Check.due("reader(0, 1)", x.reader(0, 1), 0);
        Check.due("reader(0, 2)", x.reader(0, 2), 0);
        Check.due("answered(0, 0), the latest pair", x.answered(0, 0), 3);
        Check.due("answered(0, 3), the latest pair", x.answered(0, 3), 6);
        Check.due("askAgain(0)", x.askAgain(0), Steps.NONE);
        Check.due("read(0, 0) after BUSY", x.read(0, 0), 3);
        Check.due("outcome(0) of the next read", x.outcome(0), 1);
        Check.due("reader(0, 1) of the next read", x.reader(0, 1), 1);

        SpanBoard y = Steps.divided(1);
        y.read(2, 0);
        Steps.disagree(y, 2);
        Check.due("outcome(2)", y.outcome(2), 3);
        Check.due("answered(2, 0) when nothing was answered", y.answered(2, 0), Steps.NONE);
    }

    private static void nextRound() {
        SpanBoard x = Steps.divided(2);
        x.read(1, 0);
        Steps.disagree(x, 1);
        Check.due("outcome(1)", x.outcome(1), 1);
        Check.due("reader(1, 0)", x.reader(1, 0), 2);
        Check.due("reader(1, 1)", x.reader(1, 1), 2);
        Check.due("reader(1, 2)", x.reader(1, 2), 0);
        Check.due("letters()", x.letters(), 9);
        for (int i = 0; i < 9; i++) {
            Check.due("letter(i, 0)", x.letter(i, 0), Steps.ASK);
            Check.due("letter(i, 1)", x.letter(i, 1), i);
            Check.due("letter(i, 2)", x.letter(i, 2), 0);
            Check.due("letter(i, 3)", x.letter(i, 3), 1);
            Check.due("letter(i, 4)", x.letter(i, 4), 2);
        }
        Steps.restart(x, 5, 6);
        x.deliverAll(99);
        Steps.answer(x, 1, 0, 3, 3, 3);
        Check.due("reader(1, 0) in the end", x.reader(1, 0), 2);
        Check.due("the next read(1, 0)", x.read(1, 0), 3);
        Check.due("its round", x.reader(1, 1), 1);
    }

    private static void unwritten() {
        SpanBoard x = new SpanBoard(1);
        x.read(0, 2);
        x.deliverAll(99);
        Steps.answer(x, 0, 2, 0, 0, 0);
        Check.due("answered(0, 4)", x.answered(0, 4), Steps.NONE);
        Check.due("answered(0, -1)", x.answered(0, -1), Steps.NONE);
        Check.due("answered(0, MIN)", x.answered(0, Integer.MIN_VALUE), Steps.NONE);
    }
}
