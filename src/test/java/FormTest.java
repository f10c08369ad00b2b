import java.lang.reflect.Field;
import java.lang.reflect.Method;
import java.lang.reflect.Modifier;
import java.nio.file.Files;
import java.nio.file.Path;
import java.util.ArrayList;
import java.util.Arrays;
import java.util.List;
import java.util.Set;
import java.util.TreeSet;
import java.util.regex.Matcher;
import java.util.regex.Pattern;

/** The document's face, and the rules of LANGUAGE.md as far as a test can look at them. */
public final class FormTest {
    private static final Path SOURCE = Path.of("src/main/java/LastCalled.java");
    private static final String FACE = "int hamlet(int) int one(int,int) int type(int) int clear() int read() "
            + "int call(int,int) int goes(int,int) int day() int undo() int of(int,int) int turn(int,int) "
            + "int bearers(int) int names(int) int calls(int,int,int) int own(int) int ring(int) "
            + "int deed(int,int) int owes(int) int unpaid() int ears(int,int,int,int) "
            + "int note(int,int,int,int,int) int forget(int) int is(int) int stood(int) int next(int) "
            + "int trippers(int,int,int,int) int weeks(int,int) long part(int) int image(int) int from(int) "
            + "int status(int) int count(int) long digest()";

    public static void main(String[] args) throws Exception {
        face();
        members();
        source(withoutComments(Files.readString(SOURCE)));
        Due.end();
    }

    private static void face() {
        Set<String> due = new TreeSet<>();
        Matcher m = Pattern.compile("\\w+ \\w+\\([^)]*\\)").matcher(FACE);
        while (m.find()) {
            due.add(m.group());
        }
        Set<String> got = new TreeSet<>();
        for (Method method : LastCalled.class.getDeclaredMethods()) {
            if (!Modifier.isPrivate(method.getModifiers()) && !method.isSynthetic()) {
                Due.holds(method + " is public and not static", Modifier.isPublic(method.getModifiers())
                        && !Modifier.isStatic(method.getModifiers()));
                got.add(method.getReturnType() + " " + method.getName()
                        + Arrays.toString(method.getParameterTypes()).replaceAll(" ", "").replace('[', '(').replace(']', ')'));
            }
        }
        Due.holds("the face is " + due + ", is " + got, due.equals(got));
        Due.is("constructors", LastCalled.class.getDeclaredConstructors().length, 1);
        Due.is("public constructors", LastCalled.class.getConstructors().length, 1);
        Due.holds("public and final", (LastCalled.class.getModifiers() & (Modifier.PUBLIC | Modifier.FINAL))
                == (Modifier.PUBLIC | Modifier.FINAL));
        Due.is("NONE", LastCalled.NONE, -1);
        Due.is("BAD", LastCalled.BAD, -2);
        Due.is("NO", LastCalled.NO, -3);
        Due.is("FULL", LastCalled.FULL, -4);
        Due.is("public constants", LastCalled.class.getFields().length, 4);
    }

    private static void members() {
        Set<String> publicNames = new TreeSet<>();
        for (Method method : LastCalled.class.getMethods()) {
            if (method.getDeclaringClass() == LastCalled.class) {
                publicNames.add(method.getName());
            }
        }
        List<Class<?>> classes = new ArrayList<>(List.of(LastCalled.class.getDeclaredClasses()));
        for (Class<?> inside : classes) {
            Due.holds(inside + " is static", Modifier.isStatic(inside.getModifiers()));
            Due.holds(inside + " is not public", !Modifier.isPublic(inside.getModifiers()));
        }
        classes.add(LastCalled.class);
        Due.holds("some twelve classes", classes.size() <= 13);
        for (Class<?> c : classes) {
            Due.holds(c + " has some twenty fields", instanceFields(c) <= 20);
            for (Field field : c.getDeclaredFields()) {
                int how = field.getModifiers();
                Due.holds(field + ": static ones are final", !Modifier.isStatic(how) || Modifier.isFinal(how));
                Due.holds(field + ": only constants are public", c == LastCalled.class && Modifier.isStatic(how)
                        || !Modifier.isPublic(how));
            }
            for (Method method : c.getDeclaredMethods()) {
                Due.holds(method + " takes seven at most", method.getParameterCount() <= 7);
                Due.holds(method + " has a name of its own", c == LastCalled.class && Modifier.isPublic(method.getModifiers())
                        || !publicNames.contains(method.getName()));
            }
        }
    }

    private static int instanceFields(Class<?> c) {
        int n = 0;
        for (Field field : c.getDeclaredFields()) {
            n += Modifier.isStatic(field.getModifiers()) ? 0 : 1;
        }
        return n;
    }

    private static String withoutComments(String source) {
        return source.replaceAll("(?s)/\\*.*?\\*/", "").replaceAll("//[^\n]*", "");
    }

    private static void source(String code) {
        String[] never = {"throw", "throws", "try", "catch", "finally", "synchronized", "assert", "package", "native", "volatile",
            "transient", "Object", "Random", "Thread", "File", "Exact", "hashCode", "toString", "getClass", "double", "float"};
        for (String word : never) {
            Due.holds("no word " + word, !Pattern.compile("\\b" + word + "\\b").matcher(code).find());
        }
        Due.holds("no lambda, no method reference", !code.contains("->") && !code.contains("::"));
        Due.holds("no annotation", !code.contains("@"));
        Due.holds("no static block", !Pattern.compile("static\\s*\\{").matcher(code).find());
        only(code, "import ([\\w.]+);", Set.of("java.util.Arrays"));
        only(code, "\\b((?:System|Arrays|Math|Integer|Long|String|List)\\.\\w+)", Set.of("System.arraycopy", "Arrays.fill",
                "Math.abs", "Math.max", "Integer.bitCount"));
        Due.holds("signs are 1 to 127", code.chars().allMatch(c -> c > 0 && c < 128));
        for (String body : code.split("\n    \\}\n|\n        \\}\n")) {
            Due.holds("some sixty lines: " + body.strip().split("\n")[0], body.strip().split("\n").length <= 60);
        }
    }

    private static void only(String code, String form, Set<String> allowed) {
        Matcher m = Pattern.compile(form).matcher(code);
        while (m.find()) {
            Due.holds(m.group(1) + " is allowed", allowed.contains(m.group(1)));
        }
    }
}
