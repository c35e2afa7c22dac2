/** Boards in the midst of things. Every call makes a new one, always in the same state. */
final class Scenes {
    private Scenes() {
    }

    /**
     * Point 0 was written and is finished, 1 is open with two receipts, 2 and 3 were never written.
     * Reader 0 reads point 0 and has two answers, 1 answered a pair, 2 has done nothing. Liars are 7,
     * which is up, and 8, which is down; 6 is down too. Hall 0 has an alarm; point 1 is in hall 2.
     * In the post: STORE to 3 .. 8, RECEIPT of 2, ASK to 3 .. 8, TELL of 2.
     */
    static SpanBoard middle() {
        SpanBoard x = new SpanBoard(2);
        x.write(0, 5, 9);
        x.deliverAll(18);
        x.read(1, 0);
        x.deliverAll(18);
        x.measured(0, 4);
        x.measured(2, 7);
        x.hall(1, 2);
        x.write(1, 3, 6);
        Steps.deliverRun(x, 0, 3);
        Steps.deliverRun(x, 6, 2);
        x.read(0, 0);
        Steps.deliverRun(x, 7, 3);
        Steps.deliverRun(x, 13, 2);
        x.lie(7);
        x.lie(8);
        x.crash(8);
        x.crash(6);
        return x;
    }

    /** One liar, 7, and nothing else that differs from a new board. */
    static SpanBoard oneLiar() {
        SpanBoard x = new SpanBoard(2);
        x.lie(7);
        return x;
    }

    /** No three that tell agree on point 0 (see Steps.divided), and so reader 0 has answered BUSY. */
    static SpanBoard busy() {
        SpanBoard x = Steps.divided(1);
        x.read(0, 0);
        Steps.disagree(x, 0);
        return x;
    }

    /** A post of 300 letters, all STOREs of point 0; reader 1 reads point 1, recorder 7 is a liar. */
    static SpanBoard full() {
        SpanBoard x = new SpanBoard(2);
        x.lie(7);
        x.read(1, 1);
        Steps.loseAll(x);
        x.write(0, 1, 1);
        Steps.fill(x, 0);
        return x;
    }

    /** As full, but for one letter. */
    static SpanBoard almostFull() {
        SpanBoard x = full();
        x.lose(299);
        return x;
    }
}
