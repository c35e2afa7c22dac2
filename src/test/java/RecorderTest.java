/** Promises 13 to 17: liars, and recorders that go down and come up. */
public final class RecorderTest {
    public static void main(String[] args) {
        lie();
        tell();
        tellIsForThePresentQuestion();
        twoLiarsAreNotBelieved();
        receipt();
        receiptOfTheFinished();
        crash();
        Check.end();
    }

    private static void lie() {
        SpanBoard x = new SpanBoard(1);
        Check.yes("lie(8)", x.lie(8));
        Check.no("lie(8) again", x.lie(8));
        x.crash(0);
        Check.yes("lie(0) of one that is down", x.lie(0));
        Check.no("lie(1), a third", x.lie(1));
        Check.no("lie(0) again", x.lie(0));
    }

    private static void tell() {
        SpanBoard x = new SpanBoard(1);
        Check.no("tell, not a liar", x.tell(3, 1, 1, 1, 1));
        x.lie(3);
        Check.no("tell, it does not read", x.tell(3, 1, 1, 1, 1));
        x.read(1, 2);
        Steps.loseAll(x);
        Check.no("tell, another that is no liar", x.tell(4, 1, 1, 1, 1));
        Check.no("tell, another reader that does not read", x.tell(3, 0, 1, 1, 1));
        Check.no("tell, number below 0", x.tell(3, 1, -1, 1, 1));
        Check.no("tell, low above high", x.tell(3, 1, 1, 2, 1));
        x.crash(3);
        Check.no("tell, down", x.tell(3, 1, 1, 1, 1));
        x.restart(3);
        Check.due("letters()", x.letters(), 0);
        Check.yes("tell with number 0", x.tell(3, 1, 0, -9, -9));
        Check.yes("tell with the greatest", x.tell(3, 1, Integer.MAX_VALUE, -1, Integer.MAX_VALUE));
        Check.due("letters() after two", x.letters(), 2);
        int[] due = {Steps.TELL, 3, 2, 1, 1};
        for (int what = 0; what < 5; what++) {
            Check.due("letter(1, " + what + ")", x.letter(1, what), due[what]);
        }
        x.deliverAll(1);
        Check.due("reader(1, 2)", x.reader(1, 2), 1);
        x.deliverAll(1);
        Check.due("reader(1, 2), only one counts", x.reader(1, 2), 1);
    }

    private static void tellIsForThePresentQuestion() {
        SpanBoard x = new SpanBoard(2);
        x.lie(8);
        x.read(0, 1);
        x.deliverAll(99);
        x.read(0, 3);
        Check.yes("tell", x.tell(8, 0, 1, 1, 1));
        int last = x.letters() - 1;
        Check.due("its point", x.letter(last, 2), 3);
        Check.due("its question", x.letter(last, 4), 2);
    }

    private static void twoLiarsAreNotBelieved() {
        SpanBoard x = new SpanBoard(1);
        x.lie(0);
        x.lie(1);
        x.read(0, 0);
        x.tell(0, 0, 50, 1, 2);
        x.tell(1, 0, 50, 1, 2);
        x.deliver(10);
        x.deliver(9);
        x.deliverAll(99);
        Check.due("outcome(0)", x.outcome(0), 2);
        Check.due("answered(0, 1)", x.answered(0, 1), 0);
    }

    private static void receipt() {
        SpanBoard x = new SpanBoard(1);
        Check.no("receipt, not a liar", x.receipt(5, 1));
        x.lie(5);
        Check.no("receipt, nothing was written", x.receipt(5, 1));
        x.write(1, 1, 1);
        Steps.loseAll(x);
        Check.no("receipt, another that is no liar", x.receipt(4, 1));
        Check.no("receipt, another point without a write", x.receipt(5, 0));
        x.crash(5);
        Check.no("receipt, down", x.receipt(5, 1));
        x.restart(5);
        Check.due("letters()", x.letters(), 0);
        Check.yes("receipt(5, 1)", x.receipt(5, 1));
        int[] due = {Steps.RECEIPT, 5, 1, Steps.NONE, 1};
        for (int what = 0; what < 5; what++) {
            Check.due("letter(0, " + what + ")", x.letter(0, what), due[what]);
        }
        x.deliverAll(1);
        Check.due("writer(1, 2)", x.writer(1, 2), 1);
        Check.due("held(5, 1, 0)", x.held(5, 1, 0), 0);
        Check.due("storeAgain(1)", x.storeAgain(1), 8);
    }

    private static void receiptOfTheFinished() {
        SpanBoard x = new SpanBoard(1);
        x.lie(0);
        x.write(2, 1, 1);
        x.deliverAll(99);
        Check.due("writer(2, 1)", x.writer(2, 1), 0);
        x.write(2, 2, 2);
        x.deliverAll(99);
        Check.yes("receipt(0, 2)", x.receipt(0, 2));
        Check.due("its number", x.letter(0, 4), 2);
        x.deliverAll(1);
        Check.due("writer(2, 2)", x.writer(2, 2), 7);
    }

    private static void crash() {
        SpanBoard x = new SpanBoard(1);
        x.write(0, 3, 3);
        x.deliverAll(99);
        Check.no("restart(6) of one that is up", x.restart(6));
        Check.yes("crash(6)", x.crash(6));
        Check.no("crash(6) again", x.crash(6));
        Check.due("held(6, 0, 1) while down", x.held(6, 0, 1), 3);
        x.write(0, 4, 4);
        x.read(0, 0);
        Check.yes("deliver of STORE", x.deliver(Steps.find(x, Steps.STORE, 6)));
        Check.yes("deliver of ASK", x.deliver(Steps.find(x, Steps.ASK, 6)));
        Check.due("letters()", x.letters(), 16);
        Check.yes("restart(6)", x.restart(6));
        Check.no("restart(6) again", x.restart(6));
        Check.due("held(6, 0, 0) after restart", x.held(6, 0, 0), 1);
        Check.due("held(6, 0, 1) after restart", x.held(6, 0, 1), 3);
        x.storeAgain(0);
        Steps.bring(x, Steps.STORE, 6, 6);
        Check.due("held(6, 0, 1) after a new STORE", x.held(6, 0, 1), 4);
        for (int r = 0; r < 9; r++) {
            Check.yes("crash(r) of all", x.crash(r));
        }
    }
}
