/** Each sentence of 'Terms' that tells what a letter does, or does not do, when it comes. */
public final class ComesTest {
    public static void main(String[] args) {
        toOneThatIsDown();
        toALiar();
        store();
        ask();
        receiptThatCounts();
        receiptThatDoesNot();
        tellThatCounts();
        tellThatDoesNot();
        threeAlike();
        highestNumber();
        remembered();
        readsNoMore();
        lastRound();
        nextRound();
        Check.end();
    }

    /** Brings the STORE and the ASK of recorder 4, which are lost: no pair, no letter comes of it. */
    private static void bothAreLost(SpanBoard x) {
        Steps.bring(x, Steps.STORE, 4, 4);
        Check.due("letters(), no RECEIPT", x.letters(), 17);
        Check.due("held(4, 0, 0)", x.held(4, 0, 0), 0);
        Steps.bring(x, Steps.ASK, 4, 4);
        Check.due("letters(), no TELL", x.letters(), 16);
    }

    /** Brings the RECEIPT and the TELL that recorder 4 sent in time. */
    private static void bothCount(SpanBoard x) {
        Steps.bring(x, Steps.RECEIPT, 4, 4);
        Steps.bring(x, Steps.TELL, 4, 4);
        Check.due("writer(0, 2)", x.writer(0, 2), 1);
        Check.due("reader(0, 2)", x.reader(0, 2), 1);
    }

    private static SpanBoard storesAndAsks() {
        SpanBoard x = new SpanBoard(1);
        x.write(0, 1, 2);
        x.read(0, 0);
        return x;
    }

    private static void toOneThatIsDown() {
        Check.holds("Terms: a letter comes to a recorder that is down: it is lost", () -> {
            SpanBoard x = storesAndAsks();
            x.crash(4);
            bothAreLost(x);
            x.restart(4);
            Check.due("held(4, 0, 0), up again", x.held(4, 0, 0), 0);
            Check.due("letters(), up again", x.letters(), 16);
        });
        Check.holds("Terms: only what comes TO a recorder that is down is lost", () -> {
            SpanBoard x = storesAndAsks();
            Steps.bring(x, Steps.STORE, 4, 4);
            Steps.bring(x, Steps.ASK, 4, 4);
            x.crash(4);
            bothCount(x);
        });
        Check.holds("Promise 17: it comes up, with its pairs", () -> {
            SpanBoard x = storesAndAsks();
            Steps.bring(x, Steps.STORE, 4, 4);
            x.crash(4);
            x.restart(4);
            Check.due("held(4, 0, 0)", x.held(4, 0, 0), 1);
            Check.due("held(4, 0, 2)", x.held(4, 0, 2), 2);
        });
    }

    private static void toALiar() {
        Check.holds("Terms: a letter comes to a liar: it is lost", () -> {
            SpanBoard x = storesAndAsks();
            x.lie(4);
            bothAreLost(x);
        });
        Check.holds("Terms: only what comes TO a liar is lost", () -> {
            SpanBoard x = storesAndAsks();
            Steps.bring(x, Steps.STORE, 4, 4);
            Steps.bring(x, Steps.ASK, 4, 4);
            x.lie(4);
            bothCount(x);
            Check.due("held(4, 0, 0), what it kept", x.held(4, 0, 0), 1);
        });
        Check.holds("Terms: a liar that was down and is up again is a liar", () -> {
            SpanBoard x = storesAndAsks();
            x.lie(4);
            x.crash(4);
            x.restart(4);
            bothAreLost(x);
        });
    }

    /** A STORE to recorder 0 comes; what is due is the number that it keeps, and its RECEIPT's. */
    private static void storeComes(SpanBoard x, int place, int kept, int receipted) {
        Check.yes("deliver(" + place + ")", x.deliver(place));
        Check.due("held(0, 0, 0)", x.held(0, 0, 0), kept);
        Check.due("held(0, 0, 1)", x.held(0, 0, 1), kept * 10);
        Check.due("held(0, 0, 2)", x.held(0, 0, 2), kept * 10 + 1);
        Steps.row(x, x.letters() - 1, Steps.RECEIPT, 0, 0, Steps.NONE, receipted);
    }

    /** Writes 1 to 3 of point 0 went to recorders 1 .. 8; the STOREs to 0 are at places 0, 1 and 2. */
    private static SpanBoard threeStores() {
        SpanBoard x = new SpanBoard(1);
        for (int n = 1; n <= 3; n++) {
            x.write(0, n * 10, n * 10 + 1);
            Steps.deliverRun(x, n, 16);
        }
        return x;
    }

    private static void store() {
        Check.holds("Terms: STORE, if the number is above that of its pair, that is the pair now", () -> {
            SpanBoard x = threeStores();
            storeComes(x, 0, 1, 1);
            storeComes(x, 0, 2, 2);
            storeComes(x, 0, 3, 3);
            storeComes(threeStores(), 2, 3, 3);
        });
        Check.holds("Terms: STORE of a number below keeps the pair, and is receipted", () -> {
            SpanBoard x = threeStores();
            storeComes(x, 2, 3, 3);
            storeComes(x, 1, 3, 2);
            storeComes(x, 0, 3, 1);
        });
        Check.holds("Terms: STORE of the same number keeps the pair, and is receipted", () -> {
            SpanBoard x = threeStores();
            x.twin(1);
            storeComes(x, 1, 2, 2);
            storeComes(x, 2, 2, 2);
        });
    }

    private static void ask() {
        Check.holds("Terms: ASK, it sends TELL with its pair, be it the first one", () -> {
            SpanBoard x = new SpanBoard(1);
            x.read(2, 3);
            x.deliver(0);
            Steps.row(x, 8, Steps.TELL, 0, 3, 2, 1);
            x.deliverAll(99);
            Steps.answer(x, 2, 3, 0, 0, 0);
        });
        Check.holds("Terms: ASK of an old question is told that question's number", () -> {
            SpanBoard x = new SpanBoard(1);
            x.read(2, 3);
            Steps.deliverRun(x, 2, 14);
            Check.due("outcome(2)", x.outcome(2), 2);
            x.read(2, 1);
            x.deliver(0);
            Steps.row(x, 10, Steps.TELL, 0, 3, 2, 1);
        });
        Check.holds("Terms: TELL has the pair of when it was asked", () -> {
            SpanBoard x = new SpanBoard(1);
            x.read(0, 0);
            x.deliverAll(9);
            x.write(0, 4, 4);
            Steps.deliverRun(x, 9, 9);
            x.deliverAll(7);
            Steps.answer(x, 0, 0, 0, 0, 0);
        });
    }

    private static void receiptThatCounts() {
        Check.holds("Terms: with seven receipts the write is FINISHED, with six it is open", () -> {
            SpanBoard x = new SpanBoard(1);
            x.write(2, 1, 1);
            x.deliverAll(9);
            for (int n = 1; n <= 7; n++) {
                x.deliver(n % 2);
                Check.due("writer(2, 2) with " + n, x.writer(2, 2), n);
                Check.due("writer(2, 1) with " + n, x.writer(2, 1), n < 7 ? 1 : 0);
                Check.due("writer(2, 3) with " + n, x.writer(2, 3), n < 7 ? 0 : 1);
            }
        });
        Check.holds("Terms: seven of which two lie finish a write, six of which two lie do not", () -> {
            SpanBoard x = Scenes.oneLiar();
            x.lie(8);
            x.crash(0);
            x.crash(1);
            x.crash(2);
            x.write(0, 1, 1);
            x.receipt(7, 0);
            x.receipt(8, 0);
            x.deliverAll(99);
            Check.due("writer(0, 2)", x.writer(0, 2), 6);
            Check.due("writer(0, 1)", x.writer(0, 1), 1);
            x.restart(1);
            x.storeAgain(0);
            x.deliverAll(99);
            Check.due("writer(0, 2)", x.writer(0, 2), 7);
            Check.due("writer(0, 1)", x.writer(0, 1), 0);
        });
    }

    private static void receiptThatDoesNot() {
        Check.holds("Terms: RECEIPT counts only if the write is open", () -> {
            SpanBoard x = new SpanBoard(1);
            x.write(0, 1, 1);
            x.deliverAll(16);
            Check.due("deliverAll(2), the eighth and ninth", x.deliverAll(2), 2);
            Check.due("writer(0, 2)", x.writer(0, 2), 7);
            Check.due("writer(0, 1)", x.writer(0, 1), 0);
        });
        Check.holds("Terms: RECEIPT counts only if the write has this number", () -> {
            SpanBoard x = new SpanBoard(1);
            x.write(0, 1, 1);
            x.deliverAll(16);
            x.write(0, 2, 2);
            Check.due("deliverAll(2), of write 1", x.deliverAll(2), 2);
            Check.due("writer(0, 2)", x.writer(0, 2), 0);
            Check.due("storeAgain(0)", x.storeAgain(0), 9);
        });
        Check.holds("Terms: RECEIPT counts for its own point's writer", () -> {
            SpanBoard x = new SpanBoard(1);
            x.write(0, 1, 1);
            x.write(1, 1, 1);
            x.deliverAll(9);
            Steps.deliverRun(x, 9, 9);
            Check.due("writer(0, 3)", x.writer(0, 3), 1);
            Check.due("writer(1, 2)", x.writer(1, 2), 0);
            Check.due("writer(1, 1)", x.writer(1, 1), 1);
        });
        Check.holds("Terms: the recorder is one of which it has a receipt, once and not twice", () -> {
            SpanBoard x = new SpanBoard(1);
            x.write(0, 1, 1);
            x.deliver(3);
            for (int n = 0; n < 8; n++) {
                x.twin(8);
            }
            Steps.deliverRun(x, 8, 9);
            Check.due("writer(0, 2)", x.writer(0, 2), 1);
            Check.due("writer(0, 1)", x.writer(0, 1), 1);
        });
        Check.holds("Promise 18: what was forgotten counts again when it comes again", () -> {
            SpanBoard x = new SpanBoard(1);
            x.write(0, 1, 1);
            x.deliverAll(15);
            x.forget(0);
            Check.due("writer(0, 2)", x.writer(0, 2), 0);
            Check.due("storeAgain(0)", x.storeAgain(0), 9);
            x.deliverAll(3);
            Check.due("writer(0, 2), three that were on their way", x.writer(0, 2), 3);
            x.deliverAll(12);
            Check.due("writer(0, 2)", x.writer(0, 2), 6);
            Check.due("writer(0, 1)", x.writer(0, 1), 1);
            x.deliverAll(1);
            Check.due("writer(0, 1)", x.writer(0, 1), 0);
        });
    }

    private static void tellThatCounts() {
        Check.holds("Terms: with seven answers the reader looks, with six it does not", () -> {
            SpanBoard x = new SpanBoard(1);
            x.read(0, 0);
            x.deliverAll(9);
            for (int n = 1; n <= 7; n++) {
                x.deliver(n % 2);
                Check.due("reader(0, 2) with " + n, x.reader(0, 2), n < 7 ? n : 0);
                Check.due("outcome(0) with " + n, x.outcome(0), n < 7 ? 1 : 2);
            }
        });
        Check.holds("Terms: a liar's TELL is an answer as well", () -> {
            SpanBoard x = Scenes.oneLiar();
            x.read(0, 0);
            x.tell(7, 0, 9, 9, 9);
            x.deliver(9);
            Check.due("reader(0, 2)", x.reader(0, 2), 1);
            Check.due("askAgain(0)", x.askAgain(0), 8);
        });
    }

    private static void tellThatDoesNot() {
        Check.holds("Terms: TELL counts only if the reader reads", () -> {
            SpanBoard x = new SpanBoard(1);
            Steps.writePartly(x, 0, 5, 6, 8);
            x.read(0, 0);
            x.deliverAll(16);
            Steps.answer(x, 0, 0, 0, 0, 0);
            Check.due("deliverAll(2), the eighth and ninth", x.deliverAll(2), 2);
            Steps.answer(x, 0, 0, 0, 0, 0);
            Check.due("reader(0, 2)", x.reader(0, 2), 0);
        });
        Check.holds("Terms: TELL counts only if the question is the present one", () -> {
            SpanBoard x = new SpanBoard(1);
            x.read(0, 0);
            x.deliverAll(16);
            x.read(0, 0);
            Check.due("deliverAll(2), of question 1", x.deliverAll(2), 2);
            Check.due("reader(0, 2)", x.reader(0, 2), 0);
            Check.due("askAgain(0)", x.askAgain(0), 9);
        });
        Check.holds("Terms: TELL of the round before is of a question that is not present", () -> {
            SpanBoard x = Steps.divided(2);
            x.read(0, 0);
            x.tell(7, 0, 100, 1, 1);
            x.tell(8, 0, 101, 1, 1);
            x.tell(7, 0, 100, 1, 1);
            x.deliverAll(11);
            Steps.deliverRun(x, 1, 5);
            Check.due("reader(0, 1)", x.reader(0, 1), 2);
            Steps.row(x, 0, Steps.TELL, 7, 0, 0, 1);
            Check.yes("deliver(0)", x.deliver(0));
            Check.due("reader(0, 2)", x.reader(0, 2), 0);
            Check.due("askAgain(0)", x.askAgain(0), 9);
        });
        Check.holds("Terms: TELL counts for its own reader", () -> {
            SpanBoard x = new SpanBoard(1);
            x.read(0, 0);
            x.read(1, 0);
            x.deliverAll(9);
            Steps.deliverRun(x, 9, 9);
            Check.due("outcome(0)", x.outcome(0), 2);
            Check.due("outcome(1)", x.outcome(1), 1);
            Check.due("reader(1, 2)", x.reader(1, 2), 0);
        });
        Check.holds("Terms: TELL counts only if the recorder has not answered yet", () -> {
            int[][] firstSecondDue = {{1, 9, 1}, {9, 1, 0}};
            for (int[] row : firstSecondDue) {
                SpanBoard x = new SpanBoard(1);
                Steps.writePartly(x, 0, 5, 0, 1);
                x.lie(8);
                x.read(0, 0);
                x.tell(8, 0, row[0], 5, 5);
                x.tell(8, 0, row[1], 5, 5);
                Steps.deliverRun(x, 9, 2);
                Check.due("reader(0, 2)", x.reader(0, 2), 1);
                x.deliverAll(99);
                Check.due("answered(0, 1)", x.answered(0, 1), row[2]);
            }
        });
    }

    /** Recorders 0 .. n - 1 keep write 1, which is 5 7; reader 0 has seven answers, of 0 .. 6. */
    private static SpanBoard toldBy(int n) {
        SpanBoard x = new SpanBoard(1);
        x.write(0, 5, 7);
        x.deliverAll(n);
        Steps.loseAll(x);
        x.read(0, 0);
        x.deliverAll(7);
        x.lose(0);
        x.lose(0);
        x.deliverAll(7);
        return x;
    }

    private static void threeAlike() {
        Check.holds("Terms: what at least three told alike is believed, what two told is not", () -> {
            for (int n = 0; n <= 7; n++) {
                int number = n < 3 ? 0 : 1;
                Steps.answer(toldBy(n), 0, 0, number, number * 5, number * 7);
            }
        });
        Check.holds("Terms: the three may be any of the seven", () -> {
            for (int first = 0; first < 5; first++) {
                for (int third = first + 2; third < 7; third++) {
                    SpanBoard x = new SpanBoard(1);
                    x.crash(7);
                    x.crash(8);
                    x.write(0, 5, 7);
                    x.deliver(third);
                    x.deliver(first + 1);
                    x.deliver(first);
                    Steps.loseAll(x);
                    x.read(0, 0);
                    x.deliverAll(99);
                    Steps.answer(x, 0, 0, 1, 5, 7);
                }
            }
        });
        Check.holds("Terms: alike are number, low and high", () -> {
            int[][] toldAndDue = {{1, 5, 7, 1}, {2, 5, 7, 0}, {0, 5, 7, 0}, {1, 4, 7, 0}, {1, 6, 7, 0},
                {1, 5, 6, 0}, {1, 5, 8, 0}, {1, 4, 8, 0}, {1, -5, 7, 0}};
            for (int[] row : toldAndDue) {
                SpanBoard x = new SpanBoard(1);
                x.write(0, 5, 7);
                x.deliverAll(2);
                Steps.loseAll(x);
                x.lie(8);
                x.read(0, 0);
                x.tell(8, 0, row[0], row[1], row[2]);
                x.deliver(9);
                x.deliverAll(99);
                Check.due("answered(0, 1), told " + row[0] + " " + row[1] + " " + row[2],
                    x.answered(0, 1), row[3]);
            }
        });
    }

    /** All hold write 1, then recorders first .. last write 2; reader 0 hears 0 .. 6. */
    private static SpanBoard twoWrites(int first, int last) {
        SpanBoard x = new SpanBoard(1);
        Steps.writeWhole(x, 0, 9, 9);
        Steps.writePartly(x, 0, 2, first, last);
        Steps.readFrom(x, 0, 0, 0, 6);
        return x;
    }

    private static void highestNumber() {
        Check.holds("Terms: of those told by three it answers the one with the highest number", () -> {
            Steps.answer(twoWrites(0, 2), 0, 0, 2, 2, 2);
            Steps.answer(twoWrites(2, 4), 0, 0, 2, 2, 2);
            Steps.answer(twoWrites(4, 6), 0, 0, 2, 2, 2);
            Steps.answer(twoWrites(0, 3), 0, 0, 2, 2, 2);
        });
        Check.holds("Terms: the highest number that is told by two is not answered", () -> {
            Steps.answer(twoWrites(0, 1), 0, 0, 1, 9, 9);
            Steps.answer(twoWrites(5, 6), 0, 0, 1, 9, 9);
            Steps.answer(twoWrites(5, 8), 0, 0, 1, 9, 9);
        });
    }

    private static void remembered() {
        Check.holds("Terms: if the number is below the remembered one's, the one it remembers", () -> {
            SpanBoard x = twoWrites(0, 2);
            Steps.readFrom(x, 0, 0, 2, 8);
            Steps.answer(x, 0, 0, 2, 2, 2);
            Steps.readFrom(x, 0, 0, 2, 8);
            Steps.answer(x, 0, 0, 2, 2, 2);
        });
        Check.holds("Terms: if the number is not below the remembered one's, what was told", () -> {
            SpanBoard x = twoWrites(5, 8);
            Steps.answer(x, 0, 0, 1, 9, 9);
            Steps.readFrom(x, 0, 0, 0, 6);
            Steps.answer(x, 0, 0, 1, 9, 9);
            Steps.readFrom(x, 0, 0, 2, 8);
            Steps.answer(x, 0, 0, 2, 2, 2);
        });
        Check.holds("Terms: it remembers for each point, and each reader for itself", () -> {
            SpanBoard x = twoWrites(0, 2);
            Steps.readFrom(x, 0, 1, 2, 8);
            Steps.answer(x, 0, 1, 0, 0, 0);
            Steps.readFrom(x, 1, 0, 2, 8);
            Steps.answer(x, 1, 0, 1, 9, 9);
        });
    }

    private static void readsNoMore() {
        Check.holds("Terms: it reads no more when it has answered", () -> {
            SpanBoard x = toldBy(7);
            Check.due("outcome(0)", x.outcome(0), 2);
            Check.due("letters(), no further ASK", x.letters(), 0);
            Check.due("askAgain(0)", x.askAgain(0), Steps.NONE);
            Check.due("read(0, 0)", x.read(0, 0), 2);
        });
        Check.holds("Terms: it reads no more when it was BUSY", () -> {
            SpanBoard x = Scenes.busy();
            Check.due("outcome(0)", x.outcome(0), 3);
            Check.due("letters(), no further ASK", x.letters(), 0);
            Check.due("askAgain(0)", x.askAgain(0), Steps.NONE);
            Check.due("read(0, 0)", x.read(0, 0), 2);
        });
    }

    private static void lastRound() {
        Check.holds("Terms: if the round is the last one, it answers BUSY, and not before", () -> {
            for (int rounds = 1; rounds <= 9; rounds++) {
                SpanBoard x = Steps.divided(rounds);
                x.read(0, 0);
                for (int round = 1; round <= rounds; round++) {
                    Check.due("reader(0, 1) of " + rounds, x.reader(0, 1), round);
                    Check.due("outcome(0) of " + rounds, x.outcome(0), 1);
                    Steps.disagree(x, 0);
                }
                Check.due("outcome(0) after " + rounds, x.outcome(0), 3);
            }
        });
        Check.holds("Terms: in the last round three alike are answered all the same", () -> {
            SpanBoard x = Steps.divided(2);
            x.read(0, 0);
            Steps.disagree(x, 0);
            Steps.restart(x, 5, 6);
            x.deliverAll(99);
            Steps.answer(x, 0, 0, 3, 3, 3);
        });
        Check.holds("Terms: BUSY changes nothing that it remembers or has answered", () -> {
            SpanBoard x = Steps.divided(1);
            Steps.restart(x, 5, 6);
            Steps.readFrom(x, 0, 0, 0, 6);
            Steps.crash(x, 5, 6);
            x.read(0, 0);
            Steps.disagree(x, 0);
            Check.due("outcome(0)", x.outcome(0), 3);
            Check.due("answered(0, 1)", x.answered(0, 1), 3);
            Check.due("answered(0, 2)", x.answered(0, 2), 3);
        });
    }

    private static void nextRound() {
        Check.holds("Terms: the next round's question is one more, and nothing was answered", () -> {
            SpanBoard x = Steps.divided(3);
            x.read(0, 0);
            Steps.disagree(x, 0);
            Check.due("reader(0, 0)", x.reader(0, 0), 2);
            Check.due("reader(0, 1)", x.reader(0, 1), 2);
            Check.due("reader(0, 2)", x.reader(0, 2), 0);
            Check.due("askAgain(0)", x.askAgain(0), 9);
        });
        Check.holds("Terms: in the next round ASK goes to all recorders", () -> {
            SpanBoard x = Steps.divided(3);
            x.read(0, 0);
            Steps.disagree(x, 0);
            Check.due("letters()", x.letters(), 9);
            for (int r = 0; r < 9; r++) {
                Steps.row(x, r, Steps.ASK, r, 0, 0, 2);
            }
        });
        Check.holds("Promise 4: after a later round, the next read begins in round 1", () -> {
            SpanBoard x = Steps.divided(2);
            x.read(0, 0);
            Steps.disagree(x, 0);
            Steps.disagree(x, 0);
            Check.due("outcome(0)", x.outcome(0), 3);
            Check.due("read(0, 0)", x.read(0, 0), 3);
            Check.due("reader(0, 1)", x.reader(0, 1), 1);
            Check.due("reader(0, 2)", x.reader(0, 2), 0);
        });
    }
}
