import java.lang.reflect.Constructor;
import java.lang.reflect.Executable;
import java.lang.reflect.Field;
import java.lang.reflect.Method;
import java.lang.reflect.Modifier;
import java.nio.file.Files;
import java.nio.file.Path;
import java.util.List;
import java.util.function.Consumer;
import java.util.regex.Matcher;
import java.util.regex.Pattern;

/** The rules of LANGUAGE.md that a program can see; FaceTest looks at what rule 1 says of members. */
public final class LanguageTest {
    private static final Path PROGRAM = Path.of("src/main/java/SpanBoard.java");
    private static final List<String> LIBRARY = List.of("Math.max", "Math.min");
    // The rules allow some of these in places; the program has no need of them, so none is let in.
    private static final List<String> UNUSED = List.of(
        "import", "package", "throw", "throws", "try", "catch", "finally", "synchronized", "assert",
        "volatile", "native", "System", "Thread", "Random", "String", "Object", "equals", "hashCode",
        "toString", "float", "double", "protected", "var");

    public static void main(String[] args) throws Exception {
        String text = withoutComments(Files.readString(PROGRAM));
        Check.holds("Rules 1, 2: classes inside are static and not public", LanguageTest::classes);
        Check.holds("Rule 5: static fields are final constants", LanguageTest::staticFields);
        Check.holds("Rule 11: parameters, classes, fields", LanguageTest::sizes);
        Check.holds("Rule 11: methods stay short", () -> methodLengths(text));
        Check.holds("Rules 3, 4, 6, 13: no other word of the library", () -> words(text));
        Check.end();
    }

    private static String withoutComments(String text) {
        return text.replaceAll("(?s)/\\*.*?\\*/", "").replaceAll("//[^\\n]*", "");
    }

    private static void classes() {
        for (Class<?> inside : SpanBoard.class.getDeclaredClasses()) {
            int is = inside.getModifiers();
            Check.yes(inside + " is static", Modifier.isStatic(is));
            Check.no(inside + " is public or protected", Modifier.isPublic(is) || Modifier.isProtected(is));
        }
    }

    private static void staticFields() {
        eachClass(type -> {
            for (Field f : type.getDeclaredFields()) {
                if (Modifier.isStatic(f.getModifiers())) {
                    Check.yes(f + " is a final int",
                        Modifier.isFinal(f.getModifiers()) && f.getType() == int.class);
                }
            }
        });
    }

    private static void sizes() {
        Check.yes("at most twelve classes", SpanBoard.class.getDeclaredClasses().length + 1 <= 12);
        eachClass(type -> {
            for (Method m : type.getDeclaredMethods()) {
                parameters(m);
            }
            for (Constructor<?> c : type.getDeclaredConstructors()) {
                parameters(c);
            }
            int fields = 0;
            for (Field f : type.getDeclaredFields()) {
                fields += Modifier.isStatic(f.getModifiers()) ? 0 : 1;
            }
            Check.yes(type + " has at most twenty fields", fields <= 20);
        });
    }

    private static void parameters(Executable called) {
        Check.yes(called + " takes at most seven", called.getParameterCount() <= 7);
    }

    private static void eachClass(Consumer<Class<?>> look) {
        look.accept(SpanBoard.class);
        for (Class<?> inside : SpanBoard.class.getDeclaredClasses()) {
            look.accept(inside);
        }
    }

    // A method ends at the first brace that stands as deep as its head.
    private static void methodLengths(String text) {
        Matcher method = Pattern.compile("(?ms)^( {4}| {8})(?! )[^\\n;=]*\\)\\s*\\{\\n.*?^\\1\\}").matcher(text);
        while (method.find()) {
            String[] lines = method.group().split("\n");
            Check.yes(lines[0].trim() + " has at most sixty lines", lines.length <= 60);
        }
    }

    private static void words(String text) {
        for (String word : UNUSED) {
            Check.no(word + " is used", Pattern.compile("\\b" + word + "\\b").matcher(text).find());
        }
        Check.no("a lambda or a method reference is used", text.contains("->") || text.contains("::"));
        Matcher call = Pattern.compile("\\b(?:Math|Integer|Long|Arrays|List)\\.\\w+").matcher(text);
        while (call.find()) {
            Check.yes(call.group() + " is one of " + LIBRARY, LIBRARY.contains(call.group()));
        }
    }
}
