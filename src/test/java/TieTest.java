import java.lang.reflect.Array;
import java.lang.reflect.Field;

/**
 * "of several of that, the one with the least low, then the least high": three that tell alike are
 * needed to make a second pair of a number that honest ones hold, and there are but two liars. So no
 * run of calls comes here, and a third liar is made by force, past promise 13.
 */
public final class TieTest {
    public static void main(String[] args) throws ReflectiveOperationException {
        int[][] toldAndDue = {{4, 7, 4, 7}, {6, 7, 5, 7}, {5, 6, 5, 6}, {5, 8, 5, 7}, {4, 9, 4, 9},
            {6, 6, 5, 7}, {-6, 7, -6, 7}, {Integer.MIN_VALUE, Integer.MAX_VALUE, Integer.MIN_VALUE,
            Integer.MAX_VALUE}};
        for (int[] row : toldAndDue) {
            tie(0, row);
            tie(3, row);
        }
        Check.end();
    }

    /** Three honest recorders tell 1, 5 7, the liars from a place on 1 and another span, one 0, 0 0. */
    private static void tie(int firstLiar, int[] row) throws ReflectiveOperationException {
        SpanBoard x = new SpanBoard(1);
        int firstHonest = 3 - firstLiar;
        x.write(0, 5, 7);
        Steps.deliverRun(x, firstHonest, 3);
        Steps.loseAll(x);
        x.read(0, 0);
        for (int r = firstLiar; r < firstLiar + 3; r++) {
            makeLiar(x, r);
            Check.yes("tell(" + r + ")", x.tell(r, 0, 1, row[0], row[1]));
        }
        Steps.deliverRun(x, 9, 3);
        Steps.deliverRun(x, firstHonest, 3);
        Steps.deliverRun(x, 6, 3);
        Check.due("reader(0, 2)", x.reader(0, 2), 6);
        Steps.bring(x, Steps.ASK, 8, 8);
        Steps.bring(x, Steps.TELL, 8, 8);
        Steps.answer(x, 0, 0, 1, row[2], row[3]);
    }

    private static void makeLiar(SpanBoard x, int recorder) throws ReflectiveOperationException {
        Field recorders = SpanBoard.class.getDeclaredField("recorders");
        recorders.setAccessible(true);
        Object one = Array.get(recorders.get(x), recorder);
        Field liar = one.getClass().getDeclaredField("liar");
        liar.setAccessible(true);
        liar.setBoolean(one, true);
    }
}
