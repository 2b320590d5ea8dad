import java.io.IOException;
import java.lang.reflect.Field;
import java.lang.reflect.Method;
import java.lang.reflect.Modifier;
import java.nio.file.Files;
import java.nio.file.Path;
import java.util.Arrays;
import java.util.Set;
import java.util.TreeSet;
import java.util.regex.Matcher;
import java.util.regex.Pattern;
import java.util.stream.Collectors;

/** The public face of the document, and the rules of LANGUAGE.md that can be read off the class. */
public final class FaceTest {
    private static final Check check = new Check();

    public static void main(String[] args) throws IOException {
        face();
        hiddenMembers();
        classesInside();
        source();
        check.end();
    }

    private static void face() throws IOException {
        check.promise("the public face");
        Set<String> want = new TreeSet<>();
        String document = Files.readString(Path.of("..", "shared", "DOC.md"));
        String block = document.substring(document.indexOf("```java"), document.indexOf("\n}\n```"));
        Matcher line = Pattern.compile("^    public (?!static)(.*);$", Pattern.MULTILINE).matcher(block);
        while (line.find()) {
            want.add(line.group(1).replaceAll("(int|boolean) \\w+([,)])", "$1$2"));
        }
        Set<String> got = new TreeSet<>();
        got.add("TuneFinder()");
        for (Method method : TuneFinder.class.getDeclaredMethods()) {
            if (Modifier.isPublic(method.getModifiers())) {
                got.add(told(method));
            }
        }
        check.same(want.toString(), got.toString(), "methods");
        check.same("18", Integer.toString(got.size()), "how many promises have a method or constructor");
        check.same("[public TuneFinder()]", Arrays.toString(TuneFinder.class.getDeclaredConstructors()),
                "constructors");
        check.same("public final", Modifier.toString(TuneFinder.class.getModifiers()), "the class");
        check.due(-1, "NONE", () -> TuneFinder.NONE);
    }

    private static String told(Method method) {
        String answers = method.getReturnType().getSimpleName() + " " + method.getName();
        String takes = names(method.getParameterTypes());
        String refuses = names(method.getExceptionTypes());
        return answers + "(" + takes + ")" + (refuses.isEmpty() ? "" : " throws " + refuses);
    }

    private static String names(Class<?>[] types) {
        return Arrays.stream(types).map(Class::getSimpleName).collect(Collectors.joining(", "));
    }

    private static void hiddenMembers() {
        check.promise("LANGUAGE.md 1 and 5");
        Set<String> open = new TreeSet<>();
        for (Method method : TuneFinder.class.getDeclaredMethods()) {
            if (Modifier.isPublic(method.getModifiers())) {
                open.add(method.getName());
            }
        }
        for (Method method : TuneFinder.class.getDeclaredMethods()) {
            if (!Modifier.isPublic(method.getModifiers())) {
                check.same("true", "" + Modifier.isPrivate(method.getModifiers()), method + " is private");
                check.same("false", "" + open.contains(method.getName()), method + " bears a public name");
            }
        }
        for (Field field : TuneFinder.class.getDeclaredFields()) {
            boolean hidden = Modifier.isPrivate(field.getModifiers()) || field.getName().equals("NONE");
            check.same("true", "" + hidden, field + " is private");
            check.same("true", "" + Modifier.isFinal(field.getModifiers()), field + " is final");
        }
    }

    private static void classesInside() {
        check.promise("LANGUAGE.md 1, 5 and 11");
        Class<?>[] inside = TuneFinder.class.getDeclaredClasses();
        check.same("true", "" + (inside.length <= 12), "at most twelve classes");
        for (Class<?> one : inside) {
            check.same("true", "" + Modifier.isStatic(one.getModifiers()), one + " is static");
            check.same("false", "" + Modifier.isPublic(one.getModifiers()), one + " is public");
            for (Field field : one.getDeclaredFields()) {
                boolean free = !Modifier.isStatic(field.getModifiers()) || Modifier.isFinal(field.getModifiers());
                check.same("true", "" + free, field + " is final if it is static");
            }
            for (Method method : one.getDeclaredMethods()) {
                check.same("true", "" + (method.getParameterCount() <= 7), method + " takes seven at most");
            }
        }
    }

    private static void source() throws IOException {
        check.promise("LANGUAGE.md 2, 3, 4 and 6");
        String source = Files.readString(Path.of("src", "main", "java", "TuneFinder.java"));
        String[] refused = {"\\bimport\\b", "\\bpackage\\b", "->", "::", "\\btry\\b", "\\bfinally\\b",
            "\\bassert\\b", "\\bsynchronized\\b", "\\bnull\\b", "\\bSystem\\b", "\\bThread\\b", "Exact\\b",
            "\\bstatic \\{", "\\bvar\\b", "[^\\x00-\\x7f]"};
        for (String form : refused) {
            check.same("false", "" + Pattern.compile(form).matcher(source).find(), form + " in the source");
        }
    }
}
