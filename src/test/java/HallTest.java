/** Promises 2, 24 and 25: halls, measured values and alarms. */
public final class HallTest {
    public static void main(String[] args) {
        pointMoves();
        onlyWhatWasAnsweredCounts();
        latestOfAnyReader();
        busyChangesNothing();
        anyPointOfAHall();
        Check.end();
    }

    private static void readNow(SpanBoard x, int reader, int point) {
        x.read(reader, point);
        x.deliverAll(99);
    }

    private static void pointMoves() {
        SpanBoard x = new SpanBoard(1);
        readNow(x, 0, 3);
        x.measured(0, 3);
        Check.due("alarm(0)", x.alarm(0), 0);
        Check.yes("hall(3, 1)", x.hall(3, 1));
        Check.due("alarm(0) in a hall without a value", x.alarm(0), Steps.NONE);
        x.measured(1, 3);
        Check.due("alarm(0) in hall 1", x.alarm(0), 1);
        Check.yes("hall(3, 1) again", x.hall(3, 1));
        Check.yes("hall(3, 0)", x.hall(3, 0));
        Check.due("alarm(0) back in hall 0", x.alarm(0), 0);
        Check.due("alarm(1)", x.alarm(1), Steps.NONE);
    }

    private static void onlyWhatWasAnsweredCounts() {
        SpanBoard x = new SpanBoard(1);
        x.measured(0, 100);
        Check.due("alarm(0) of nothing", x.alarm(0), Steps.NONE);
        x.write(0, 1, 1);
        x.deliverAll(99);
        Check.due("alarm(0) of a write", x.alarm(0), Steps.NONE);
        x.read(0, 0);
        x.deliverAll(15);
        Check.due("alarm(0) of a read that goes on", x.alarm(0), Steps.NONE);
        x.deliverAll(1);
        Check.due("alarm(0) of an answer", x.alarm(0), 0);
        x.write(0, 99, 101);
        x.deliverAll(99);
        Check.due("alarm(0) of the old answer", x.alarm(0), 0);
        readNow(x, 0, 0);
        Check.due("alarm(0) of the new answer", x.alarm(0), Steps.NONE);
    }

    /** Readers are looked at as one: what was answered latest counts, be its number lower or not. */
    private static void latestOfAnyReader() {
        SpanBoard x = new SpanBoard(1);
        x.measured(0, 2);
        Steps.writeWhole(x, 0, 9, 9);
        Steps.writePartly(x, 0, 2, 0, 2);
        Steps.readFrom(x, 2, 0, 0, 6);
        Check.due("alarm(0) of reader 2's answer", x.alarm(0), Steps.NONE);
        Steps.readFrom(x, 0, 0, 2, 8);
        Check.due("alarm(0) of reader 0's answer", x.alarm(0), 0);
        Steps.readFrom(x, 2, 0, 2, 8);
        Check.due("alarm(0) of what reader 2 remembers", x.alarm(0), Steps.NONE);
        Steps.readFrom(x, 0, 1, 0, 6);
        x.measured(0, 0);
        Check.due("alarm(0), the other point's answer stays", x.alarm(0), 0);
    }

    private static void busyChangesNothing() {
        SpanBoard x = Steps.divided(1);
        Steps.restart(x, 5, 6);
        readNow(x, 0, 0);
        x.measured(0, 1);
        Check.due("alarm(0)", x.alarm(0), 0);
        x.measured(0, 3);
        Check.due("alarm(0) with a value in the span", x.alarm(0), Steps.NONE);
        Steps.crash(x, 5, 6);
        x.read(0, 0);
        Steps.disagree(x, 0);
        Check.due("outcome(0)", x.outcome(0), 3);
        Check.due("alarm(0) after BUSY", x.alarm(0), Steps.NONE);
        x.measured(0, 2);
        Check.due("alarm(0) after BUSY with a value outside", x.alarm(0), 0);
    }

    private static void anyPointOfAHall() {
        for (int bad = 0; bad < 4; bad++) {
            SpanBoard x = new SpanBoard(1);
            for (int p = 0; p < 4; p++) {
                x.hall(p, 2);
                x.write(p, 0, p == bad ? 4 : 5);
                x.deliverAll(99);
                readNow(x, p % 3, p);
            }
            x.measured(2, 5);
            Check.due("alarm(0)", x.alarm(0), 2);
            Check.due("alarm(1)", x.alarm(1), Steps.NONE);
        }
    }
}
