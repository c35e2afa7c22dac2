/** Promises 3, 5, 18, 22 and 23: writers, and what recorders hold. */
public final class WriterTest {
    public static void main(String[] args) {
        write();
        writeOfOtherPointsIsFree();
        finishedBySeven();
        storeAgain();
        forget();
        forgetOfTheFinished();
        held();
        Check.end();
    }

    private static void write() {
        SpanBoard x = new SpanBoard(1);
        Check.due("write(2, 4, 3)", x.write(2, 4, 3), Steps.NONE);
        Check.due("letters() after a refused write", x.letters(), 0);
        Check.due("writer(2, 0) after a refused write", x.writer(2, 0), 0);
        Check.due("write(2, -3, -3)", x.write(2, -3, -3), 1);
        Check.due("letters()", x.letters(), 9);
        for (int i = 0; i < 9; i++) {
            Check.due("letter(i, 0)", x.letter(i, 0), Steps.STORE);
            Check.due("letter(i, 1)", x.letter(i, 1), i);
            Check.due("letter(i, 2)", x.letter(i, 2), 2);
            Check.due("letter(i, 3)", x.letter(i, 3), Steps.NONE);
            Check.due("letter(i, 4)", x.letter(i, 4), 1);
        }
        Check.due("write(2, 0, 9) while one is open", x.write(2, 0, 9), Steps.NONE);
        Check.due("letters() after it", x.letters(), 9);
        Check.due("writer(2, 0)", x.writer(2, 0), 1);
        Check.due("writer(2, 1)", x.writer(2, 1), 1);
        x.deliverAll(99);
        Check.due("held(0, 2, 1)", x.held(0, 2, 1), -3);
        Check.due("the next write", x.write(2, Integer.MIN_VALUE, Integer.MAX_VALUE), 2);
        Check.due("writer(2, 2) of the next write", x.writer(2, 2), 0);
        Check.due("writer(2, 3) of the next write", x.writer(2, 3), 1);
        Check.due("letter(8, 4)", x.letter(8, 4), 2);
        x.deliverAll(99);
        Check.due("held(8, 2, 1)", x.held(8, 2, 1), Integer.MIN_VALUE);
        Check.due("held(8, 2, 2)", x.held(8, 2, 2), Integer.MAX_VALUE);
    }

    private static void writeOfOtherPointsIsFree() {
        SpanBoard x = new SpanBoard(1);
        for (int p = 0; p < 4; p++) {
            Check.due("write(p, 1, 2)", x.write(p, 1, 2), 1);
            Check.due("writer(p, 1)", x.writer(p, 1), 1);
        }
        Check.due("letters()", x.letters(), 36);
        Check.due("letter(35, 2)", x.letter(35, 2), 3);
    }

    private static void finishedBySeven() {
        SpanBoard x = new SpanBoard(1);
        x.write(3, 1, 2);
        x.deliverAll(9);
        for (int n = 0; n < 9; n++) {
            Check.due("writer(3, 2)", x.writer(3, 2), Math.min(n, 7));
            Check.due("writer(3, 1)", x.writer(3, 1), n < 7 ? 1 : 0);
            Check.due("writer(3, 3)", x.writer(3, 3), n < 7 ? 0 : 1);
            x.twin(0);
            x.deliver(0);
            x.deliver(x.letters() - 1);
        }
        Check.due("writer(3, 2) in the end", x.writer(3, 2), 7);
        Check.due("writer(2, 2) of another point", x.writer(2, 2), 0);
    }

    private static void storeAgain() {
        SpanBoard x = new SpanBoard(1);
        Check.due("storeAgain(1) before a write", x.storeAgain(1), Steps.NONE);
        x.write(1, 5, 6);
        Steps.bring(x, Steps.STORE, 3, 4);
        Steps.bring(x, Steps.RECEIPT, 3, 4);
        Steps.loseAll(x);
        Check.due("storeAgain(1)", x.storeAgain(1), 7);
        Check.due("letters()", x.letters(), 7);
        int[] due = {0, 1, 2, 5, 6, 7, 8};
        for (int i = 0; i < 7; i++) {
            Check.due("letter(i, 0)", x.letter(i, 0), Steps.STORE);
            Check.due("letter(i, 1)", x.letter(i, 1), due[i]);
            Check.due("letter(i, 2)", x.letter(i, 2), 1);
            Check.due("letter(i, 4)", x.letter(i, 4), 1);
        }
        Check.due("writer(1, 2)", x.writer(1, 2), 2);
        x.deliverAll(99);
        Check.due("held(8, 1, 2)", x.held(8, 1, 2), 6);
        Check.due("writer(1, 1)", x.writer(1, 1), 0);
        Check.due("storeAgain(1) of the finished", x.storeAgain(1), Steps.NONE);
        Check.due("letters() after it", x.letters(), 0);
    }

    private static void forget() {
        SpanBoard x = new SpanBoard(1);
        x.write(0, 1, 1);
        x.deliverAll(15);
        Check.due("writer(0, 2)", x.writer(0, 2), 6);
        Check.yes("forget(0)", x.forget(0));
        Check.due("writer(0, 2) after forget", x.writer(0, 2), 0);
        Check.due("writer(0, 1) after forget", x.writer(0, 1), 1);
        Check.due("writer(0, 0) after forget", x.writer(0, 0), 1);
        x.deliverAll(99);
        Check.due("writer(0, 2) with three more", x.writer(0, 2), 3);
        Check.due("storeAgain(0)", x.storeAgain(0), 6);
        x.deliverAll(99);
        Check.due("writer(0, 1) in the end", x.writer(0, 1), 0);
        Check.due("writer(0, 3) in the end", x.writer(0, 3), 1);
    }

    private static void forgetOfTheFinished() {
        SpanBoard x = new SpanBoard(1);
        Check.yes("forget(3) of nothing", x.forget(3));
        x.write(3, 1, 1);
        x.deliverAll(16);
        Check.yes("forget(3)", x.forget(3));
        Check.due("writer(3, 2)", x.writer(3, 2), 0);
        Check.due("writer(3, 1)", x.writer(3, 1), 0);
        Check.due("writer(3, 3)", x.writer(3, 3), 1);
        x.deliverAll(2);
        Check.due("writer(3, 2) after two receipts", x.writer(3, 2), 0);
        Check.due("storeAgain(3)", x.storeAgain(3), Steps.NONE);
    }

    private static void held() {
        SpanBoard x = new SpanBoard(1);
        x.write(1, -7, 8);
        x.deliver(4);
        Check.due("held(4, 1, 0)", x.held(4, 1, 0), 1);
        Check.due("held(4, 1, 1)", x.held(4, 1, 1), -7);
        Check.due("held(4, 1, 2)", x.held(4, 1, 2), 8);
        Check.due("held(4, 1, 3)", x.held(4, 1, 3), Steps.NONE);
        Check.due("held(4, 1, -1)", x.held(4, 1, -1), Steps.NONE);
        Check.due("held(4, 0, 0), another point", x.held(4, 0, 0), 0);
        Check.due("held(3, 1, 2), another recorder", x.held(3, 1, 2), 0);
    }
}
