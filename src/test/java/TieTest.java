import java.lang.reflect.Array;
import java.lang.reflect.Field;

/**
 * Several pairs of one number. Three that tell alike are needed to make a second pair of a number
 * that honest ones hold, and there are but two liars: no run of calls comes here. So a third liar is
 * made by force, past promise 13, which is all that this test knows of the board's inside.
 */
public final class TieTest {
    private static final int LEAST = Integer.MIN_VALUE;
    private static final int MOST = Integer.MAX_VALUE;

    public static void main(String[] args) {
        Check.holds("Terms: of several of that number, the one with the least low", () -> {
            int[][] toldAndDue = {{4, 7, 4, 7}, {6, 7, 5, 7}, {4, 9, 4, 9}, {6, 6, 5, 7}, {-6, 7, -6, 7},
                {LEAST, MOST, LEAST, MOST}, {MOST, MOST, 5, 7}};
            for (int[] row : toldAndDue) {
                tie(new SpanBoard(1), 0, row);
                tie(new SpanBoard(1), 3, row);
            }
        });
        Check.holds("Terms: of several of that number and low, the one with the least high", () -> {
            int[][] toldAndDue = {{5, 6, 5, 6}, {5, 5, 5, 5}, {5, 8, 5, 7}, {5, MOST, 5, 7}};
            for (int[] row : toldAndDue) {
                tie(new SpanBoard(1), 0, row);
                tie(new SpanBoard(1), 3, row);
            }
        });
        Check.holds("Terms: a number that is the remembered one's is not below it", () -> {
            SpanBoard x = new SpanBoard(1);
            tie(x, 0, new int[] {6, 6, 5, 7});
            tellAll(x, 0, 4, 4);
            Steps.answer(x, 0, 0, 1, 4, 4);
        });
        Check.end();
    }

    /** Three honest recorders keep 1, 5 7; three liars from a place on tell 1 and another span. */
    private static void tie(SpanBoard x, int firstLiar, int[] row) {
        x.write(0, 5, 7);
        Steps.deliverRun(x, 3 - firstLiar, 3);
        for (int r = firstLiar; r < firstLiar + 3; r++) {
            makeLiar(x, r);
        }
        tellAll(x, firstLiar, row[0], row[1]);
        Steps.answer(x, 0, 0, 1, row[2], row[3]);
    }

    /** Reader 0 hears the three liars, the three that keep 1, 5 7, and recorder 8, which keeps 0, 0 0. */
    private static void tellAll(SpanBoard x, int firstLiar, int low, int high) {
        Steps.loseAll(x);
        x.read(0, 0);
        for (int r = firstLiar; r < firstLiar + 3; r++) {
            Check.yes("tell(" + r + ")", x.tell(r, 0, 1, low, high));
        }
        Steps.deliverRun(x, 9, 3);
        Steps.deliverRun(x, 3 - firstLiar, 3);
        Steps.deliverRun(x, 6, 3);
        Check.due("reader(0, 2)", x.reader(0, 2), 6);
        Steps.bring(x, Steps.ASK, 8, 8);
        Steps.bring(x, Steps.TELL, 8, 8);
    }

    private static void makeLiar(SpanBoard x, int recorder) {
        try {
            Field recorders = SpanBoard.class.getDeclaredField("recorders");
            recorders.setAccessible(true);
            Object one = Array.get(recorders.get(x), recorder);
            Field liar = one.getClass().getDeclaredField("liar");
            liar.setAccessible(true);
            liar.setBoolean(one, true);
        } catch (ReflectiveOperationException e) {
            throw new IllegalStateException(e);
        }
    }
}
