import java.lang.reflect.Field;
import java.lang.reflect.Method;
import java.lang.reflect.Modifier;
import java.util.ArrayList;
import java.util.List;

/** Promise 1, the constant, and the public face: all of it and nothing else. */
public final class FaceTest {
    private static final String[] FACE = {
        "boolean hall(int,int)", "int write(int,int,int)", "int read(int,int)",
        "int storeAgain(int)", "int askAgain(int)", "int letters()", "int letter(int,int)",
        "boolean deliver(int)", "int deliverAll(int)", "boolean lose(int)", "boolean twin(int)",
        "boolean lie(int)", "boolean tell(int,int,int,int,int)", "boolean receipt(int,int)",
        "boolean crash(int)", "boolean restart(int)", "boolean forget(int)", "int outcome(int)",
        "int answered(int,int)", "int reader(int,int)", "int writer(int,int)",
        "int held(int,int,int)", "boolean measured(int,int)", "int alarm(int)"};

    public static void main(String[] args) {
        Check.holds("The constants: NONE = -1", () -> Check.due("NONE", SpanBoard.NONE, -1));
        Check.holds("The public face", FaceTest::face);
        rounds();
        halls();
        Check.end();
    }

    private static void face() {
        List<String> publicOnes = new ArrayList<>();
        List<String> privateNames = new ArrayList<>();
        for (Method m : SpanBoard.class.getDeclaredMethods()) {
            StringBuilder types = new StringBuilder();
            for (Class<?> type : m.getParameterTypes()) {
                types.append(types.length() == 0 ? "" : ",").append(type.getName());
            }
            if (Modifier.isPublic(m.getModifiers()) && !Modifier.isStatic(m.getModifiers())) {
                publicOnes.add(m.getReturnType() + " " + m.getName() + "(" + types + ")");
            } else {
                Check.yes(m + " is private", Modifier.isPrivate(m.getModifiers()));
                privateNames.add(" " + m.getName() + "(");
            }
        }
        Check.due("number of public methods", publicOnes.size(), FACE.length);
        for (String due : FACE) {
            Check.yes("the face has " + due, publicOnes.contains(due));
            for (String name : privateNames) {
                Check.no("a private method shares the name of " + due, due.contains(name));
            }
        }
        for (Field f : SpanBoard.class.getDeclaredFields()) {
            Check.yes(f + " is NONE or private",
                f.getName().equals("NONE") || Modifier.isPrivate(f.getModifiers()));
        }
        Check.due("public constructors", SpanBoard.class.getConstructors().length, 1);
        Check.due("all constructors", SpanBoard.class.getDeclaredConstructors().length, 1);
        Check.yes("the class is final", Modifier.isFinal(SpanBoard.class.getModifiers()));
    }

    private static void rounds() {
        Check.holds("Promise 1: so many rounds at most, 1 .. 9", () -> {
            for (int given = 1; given <= 9; given++) {
                roundsAtMost(given, given);
            }
        });
        Check.holds("Promise 1: what is less is the nearest of these", () -> {
            for (int given : new int[] {0, -1, -5, Integer.MIN_VALUE}) {
                roundsAtMost(given, 1);
            }
        });
        Check.holds("Promise 1: what is more is the nearest of these", () -> {
            for (int given : new int[] {10, 11, 300, Integer.MAX_VALUE}) {
                roundsAtMost(given, 9);
            }
        });
    }

    private static void roundsAtMost(int given, int due) {
        SpanBoard x = Steps.divided(given);
        x.read(0, 0);
        for (int round = 1; round <= due; round++) {
            Check.due("reader(0, 1) of SpanBoard(" + given + ")", x.reader(0, 1), round);
            Check.due("outcome(0) of SpanBoard(" + given + ")", x.outcome(0), 1);
            Steps.disagree(x, 0);
        }
        Check.due("outcome(0) after round " + due, x.outcome(0), 3);
    }

    private static SpanBoard answeredPoint(int point) {
        SpanBoard x = new SpanBoard(1);
        x.read(0, point);
        x.deliverAll(18);
        return x;
    }

    private static void halls() {
        Check.holds("Promise 1: points are in hall 0", () -> {
            for (int p = 0; p < 4; p++) {
                SpanBoard x = answeredPoint(p);
                x.measured(1, 7);
                x.measured(2, 7);
                Check.due("alarm(0) with halls 1 and 2 measured", x.alarm(0), Steps.NONE);
                x.measured(0, 7);
                Check.due("alarm(0) with hall 0 measured", x.alarm(0), 0);
                Check.due("alarm(1) with hall 0 measured", x.alarm(1), Steps.NONE);
            }
        });
        Check.holds("Promise 1: nothing was measured", () -> {
            for (int h = 0; h < 3; h++) {
                SpanBoard x = answeredPoint(0);
                x.hall(0, h);
                x.write(0, 5, 5);
                x.deliverAll(18);
                x.read(0, 0);
                x.deliverAll(18);
                Check.due("alarm(0) of hall " + h, x.alarm(0), Steps.NONE);
            }
        });
    }
}
