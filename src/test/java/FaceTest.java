import java.io.IOException;
import java.lang.reflect.Constructor;
import java.lang.reflect.Field;
import java.lang.reflect.Method;
import java.lang.reflect.Modifier;
import java.nio.file.Files;
import java.nio.file.Path;
import java.util.Set;
import java.util.TreeSet;
import java.util.regex.Matcher;
import java.util.regex.Pattern;

/** The public face of the document, to the letter, and the rules of LANGUAGE.md that can be looked up. */
public final class FaceTest {
    private static final String[] METHODS = {"int race(int)", "int one(int,int,int)", "int type(int)", "int clear()",
        "int read()", "int ticks(int)", "int speed(int,int)", "int start(int,int)", "int undo()", "int of(int,int)",
        "int where(int,int)", "int home(int)", "int first()", "int order(int)", "int best(int,int)",
        "int turn(int,int,int)", "int beats(int,int)", "int close(int,int,int)", "int seen(int,int,int,int)",
        "int strong(int,int)", "int tell(int)", "int note(int,int,int,int,int)", "int mark(int,int,int)",
        "int forget(int)", "int is(int)", "int look(int)", "int kinds(int)", "int ask(int)", "int pair(int,int,int)",
        "int stumble(int,int,int,int)", "int races(int,int)", "long part(int)", "int image(int)", "int from(int)",
        "int status(int)", "int count(int)", "long digest()"};
    private static final Check check = new Check("FaceTest");

    public static void main(String[] args) throws IOException {
        constants();
        methods();
        classesInside();
        words();
        check.finish();
    }

    private static void constants() {
        check.due("NONE", -1, EggSpoons.NONE);
        check.due("BAD", -2, EggSpoons.BAD);
        check.due("NO", -3, EggSpoons.NO);
        check.due("FULL", -4, EggSpoons.FULL);
        int seen = 0;
        for (Field field : EggSpoons.class.getDeclaredFields()) {
            seen += Modifier.isPrivate(field.getModifiers()) ? 0 : 1;
            boolean isStatic = Modifier.isStatic(field.getModifiers());
            check.holds(field + " is final if static", !isStatic || Modifier.isFinal(field.getModifiers()));
        }
        check.due("fields that can be seen", 4, seen);
    }

    private static void methods() {
        check.holds("public and final", Modifier.isPublic(EggSpoons.class.getModifiers())
                && Modifier.isFinal(EggSpoons.class.getModifiers()));
        Constructor<?>[] constructors = EggSpoons.class.getDeclaredConstructors();
        check.due("constructors", 1, constructors.length);
        check.holds("a public one without parameters",
                Modifier.isPublic(constructors[0].getModifiers()) && constructors[0].getParameterCount() == 0);
        Set<String> due = new TreeSet<>(Set.of(METHODS));
        Set<String> found = new TreeSet<>();
        Set<String> names = new TreeSet<>();
        for (Method method : EggSpoons.class.getDeclaredMethods()) {
            if (!Modifier.isPrivate(method.getModifiers())) {
                found.add(told(method));
                names.add(method.getName());
            }
        }
        check.holds("the methods are " + found, due.equals(found));
        for (Method method : EggSpoons.class.getDeclaredMethods()) {
            check.holds("a private name of its own: " + method,
                    !Modifier.isPrivate(method.getModifiers()) || !names.contains(method.getName()));
        }
        for (Class<?> inside : EggSpoons.class.getDeclaredClasses()) {
            for (Method method : inside.getDeclaredMethods()) {
                check.holds("a name of its own: " + method, !names.contains(method.getName()));
            }
        }
    }

    private static String told(Method method) {
        StringBuilder text = new StringBuilder(method.getReturnType() + " " + method.getName() + "(");
        for (Class<?> type : method.getParameterTypes()) {
            text.append(text.charAt(text.length() - 1) == '(' ? "" : ",").append(type);
        }
        return text.append(")").toString();
    }

    private static void classesInside() {
        Class<?>[] classes = EggSpoons.class.getDeclaredClasses();
        check.holds("at most twelve classes", classes.length + 1 <= 12);
        for (Class<?> inside : classes) {
            check.holds(inside + " is static", Modifier.isStatic(inside.getModifiers()));
            check.holds(inside + " is not public", !Modifier.isPublic(inside.getModifiers()));
            int fields = 0;
            for (Field field : inside.getDeclaredFields()) {
                fields += Modifier.isStatic(field.getModifiers()) ? 0 : 1;
            }
            check.holds(inside + " has at most twenty fields", fields <= 20);
            for (Method method : inside.getDeclaredMethods()) {
                check.holds(method + " takes at most seven", method.getParameterCount() <= 7);
            }
        }
    }

    private static void words() throws IOException {
        String source = Files.readString(Path.of("src/main/java/EggSpoons.java"));
        String code = source.replaceAll("(?s)/\\*.*?\\*/", "").replaceAll("//[^\n]*", "");
        Matcher wrong = Pattern.compile("\\b(throw|try|catch|throws|synchronized|assert|import|package|protected|"
                + "native|volatile|transient|\\w+Exact|Object|System\\.(?!arraycopy)\\w+)\\b|->|::").matcher(code);
        while (wrong.find()) {
            check.holds("outside the language: " + wrong.group(), false);
        }
        check.holds("only signs 1 to 127", source.chars().allMatch(c -> c > 0 && c < 128));
    }
}
