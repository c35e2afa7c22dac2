/** Steps that several tests take with a board; they use nothing but its public face. */
final class Steps {
    static final int NONE = SpanBoard.NONE;
    static final int STORE = 1;
    static final int RECEIPT = 2;
    static final int ASK = 3;
    static final int TELL = 4;
    static final int FULL = 300;
    static final int[] NO_POINT = {-1, 4, Integer.MIN_VALUE, Integer.MAX_VALUE};
    static final int[] NO_RECORDER = {-1, 9, Integer.MIN_VALUE, Integer.MAX_VALUE};
    static final int[] NO_READER = {-1, 3, Integer.MIN_VALUE, Integer.MAX_VALUE};
    static final int[] NO_HALL = {-1, 3, Integer.MIN_VALUE, Integer.MAX_VALUE};

    private Steps() {
    }

    /** The place of the first letter of a kind from or to a recorder, NONE if there is none. */
    static int find(SpanBoard x, int kind, int recorder) {
        int letters = x.letters();
        for (int i = 0; i < letters; i++) {
            if (x.letter(i, 0) == kind && x.letter(i, 1) == recorder) {
                return i;
            }
        }
        return NONE;
    }

    /** Delivers the first letter of a kind from or to each of the recorders first .. last. */
    static void bring(SpanBoard x, int kind, int first, int last) {
        for (int r = first; r <= last; r++) {
            Check.yes("deliver of kind " + kind + ", recorder " + r, x.deliver(find(x, kind, r)));
        }
    }

    /** Delivers so many letters from a place on; what they cause comes behind and is not reached. */
    static void deliverRun(SpanBoard x, int place, int letters) {
        for (int n = 0; n < letters; n++) {
            Check.yes("deliver(" + place + ")", x.deliver(place));
        }
    }

    static void loseAll(SpanBoard x) {
        for (int n = x.letters(); n > 0; n--) {
            x.lose(0);
        }
    }

    /** A write that only the recorders first .. last keep, and that stays open. */
    static void writePartly(SpanBoard x, int point, int value, int first, int last) {
        loseAll(x);
        x.write(point, value, value);
        deliverRun(x, first, last - first + 1);
        loseAll(x);
    }

    /** A write that all recorders get and that is finished, while all other letters stay. */
    static void writeWhole(SpanBoard x, int point, int low, int high) {
        int others = x.letters();
        x.write(point, low, high);
        deliverRun(x, others, 18);
    }

    /** A read of which the recorders first .. last are asked and heard; other letters are lost. */
    static void readFrom(SpanBoard x, int reader, int point, int first, int last) {
        int asked = last - first + 1;
        loseAll(x);
        x.read(reader, point);
        deliverRun(x, first, asked);
        deliverRun(x, 9 - asked, asked);
        loseAll(x);
    }

    /**
     * A board on which no three of those that tell agree on point 0: recorders 0 and 1 hold its
     * first write (1 1), 2 and 3 the second (2 2), 4 the third (3 3), which is open; 5 and 6 hold
     * the third and are down, 7 and 8 are liars.
     */
    static SpanBoard divided(int rounds) {
        SpanBoard x = new SpanBoard(rounds);
        x.lie(7);
        x.lie(8);
        crash(x, 5, 6);
        writeWithLiars(x, 1);
        crash(x, 0, 1);
        restart(x, 5, 6);
        writeWithLiars(x, 2);
        crash(x, 2, 3);
        x.write(0, 3, 3);
        x.deliverAll(99);
        crash(x, 5, 6);
        restart(x, 0, 1);
        restart(x, 2, 3);
        return x;
    }

    private static void writeWithLiars(SpanBoard x, int value) {
        x.write(0, value, value);
        x.receipt(7, 0);
        x.receipt(8, 0);
        x.deliverAll(99);
        Check.due("writer(0, 3)", x.writer(0, 3), value);
    }

    static void crash(SpanBoard x, int first, int second) {
        Check.yes("crash(" + first + ")", x.crash(first));
        Check.yes("crash(" + second + ")", x.crash(second));
    }

    static void restart(SpanBoard x, int first, int second) {
        Check.yes("restart(" + first + ")", x.restart(first));
        Check.yes("restart(" + second + ")", x.restart(second));
    }

    /** On a divided board whose post has but nine ASKs: seven answers, of which no three are alike. */
    static void disagree(SpanBoard x, int reader) {
        Check.due("letters() before they disagree", x.letters(), 9);
        Check.yes("tell(7)", x.tell(7, reader, 100, 1, 1));
        Check.yes("tell(8)", x.tell(8, reader, 101, 1, 1));
        Check.due("deliverAll(16)", x.deliverAll(16), 16);
    }

    /** The letter at a place, whole, and nothing beyond what a letter has. */
    static void row(SpanBoard x, int i, int kind, int recorder, int point, int reader, int number) {
        int[] due = {kind, recorder, point, reader, number};
        for (int what = 0; what < 5; what++) {
            Check.due("letter(" + i + ", " + what + ")", x.letter(i, what), due[what]);
        }
        Check.due("letter(" + i + ", 5)", x.letter(i, 5), NONE);
        Check.due("letter(" + i + ", -1)", x.letter(i, -1), NONE);
    }

    /** What a reader answered latest, which was a pair. */
    static void answer(SpanBoard x, int reader, int point, int number, int low, int high) {
        Check.due("outcome(" + reader + ")", x.outcome(reader), 2);
        Check.due("answered(" + reader + ", 0)", x.answered(reader, 0), point);
        Check.due("answered(" + reader + ", 1)", x.answered(reader, 1), number);
        Check.due("answered(" + reader + ", 2)", x.answered(reader, 2), low);
        Check.due("answered(" + reader + ", 3)", x.answered(reader, 3), high);
    }

    /** Fills the post with STOREs of a point's open write, of which at most three have a receipt. */
    static void fill(SpanBoard x, int point) {
        for (int n = 0; n < FULL / 6; n++) {
            x.storeAgain(point);
        }
        Check.due("letters() of a full post", x.letters(), FULL);
    }
}
