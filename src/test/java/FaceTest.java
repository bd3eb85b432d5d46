import java.lang.reflect.Constructor;
import java.lang.reflect.Field;
import java.lang.reflect.Member;
import java.lang.reflect.Method;
import java.lang.reflect.Modifier;
import java.nio.file.Files;
import java.nio.file.Path;
import java.util.ArrayList;
import java.util.List;
import java.util.TreeSet;
import java.util.regex.Matcher;
import java.util.regex.Pattern;

/** The public face, as the document has it, and those rules of LANGUAGE.md that a text can be searched for. */
public final class FaceTest {
    private static final Path SOURCE = Path.of("src/main/java/Huffboard.java");

    public static void main(String[] args) throws Exception {
        face();
        nothingElse();
        nested();
        words();
        lengths();
        edges();
        Check.end();
    }

    private static String told(Method method) {
        StringBuilder text = new StringBuilder(method.getReturnType().getSimpleName());
        List<String> kinds = new ArrayList<>();
        for (Class<?> kind : method.getParameterTypes()) {
            kinds.add(kind.getSimpleName());
        }
        text.append(' ').append(method.getName()).append('(').append(String.join(",", kinds)).append(')');
        List<String> thrown = new ArrayList<>();
        for (Class<?> kind : method.getExceptionTypes()) {
            thrown.add(kind.getSimpleName());
        }
        return text.append(thrown.isEmpty() ? "" : " throws " + String.join(",", thrown)).toString();
    }

    private static void face() throws Exception {
        TreeSet<String> found = new TreeSet<>();
        for (Method method : Huffboard.class.getDeclaredMethods()) {
            if (!Modifier.isPrivate(method.getModifiers())) {
                Check.yes(method + " is public", Modifier.isPublic(method.getModifiers()));
                Check.no(method + " is static", Modifier.isStatic(method.getModifiers()));
                found.add(told(method));
            }
        }
        Check.same("how many methods", 48, found.size());
        Check.same("the face", Document.face(), found);
        Check.yes("the class is public", Modifier.isPublic(Huffboard.class.getModifiers()));
        Check.yes("the class is final", Modifier.isFinal(Huffboard.class.getModifiers()));
        Constructor<?>[] makers = Huffboard.class.getDeclaredConstructors();
        Check.same("constructors", 1, makers.length);
        Check.yes("the constructor is public", Modifier.isPublic(makers[0].getModifiers()));
        Check.same("what it takes", 0, makers[0].getParameterCount());
    }

    private static void nothingElse() throws Exception {
        TreeSet<String> names = new TreeSet<>();
        for (String told : Document.face()) {
            names.add(told.replaceAll("^\\w+ (\\w+)\\(.*", "$1"));
        }
        for (Field field : Huffboard.class.getDeclaredFields()) {
            Check.yes(field + " is private", Modifier.isPrivate(field.getModifiers()));
        }
        for (Class<?> kind : Huffboard.class.getDeclaredClasses()) {
            for (Method method : kind.getDeclaredMethods()) {
                Check.no(method + " bears a public name", isHidden(method) && names.contains(method.getName()));
            }
        }
        for (Method method : Huffboard.class.getDeclaredMethods()) {
            Check.no(method + " bears a public name", isHidden(method) && names.contains(method.getName()));
        }
    }

    private static boolean isHidden(Member member) {
        return Modifier.isPrivate(member.getModifiers());
    }

    private static void nested() {
        Class<?>[] kinds = Huffboard.class.getDeclaredClasses();
        Check.yes("at most twelve classes", kinds.length < 12);
        for (Class<?> kind : kinds) {
            Check.yes(kind + " is static", Modifier.isStatic(kind.getModifiers()));
            Check.no(kind + " is public", Modifier.isPublic(kind.getModifiers()));
            int fields = 0;
            for (Field field : kind.getDeclaredFields()) {
                boolean isStatic = Modifier.isStatic(field.getModifiers());
                Check.yes(field + " is final if static", !isStatic || Modifier.isFinal(field.getModifiers()));
                fields += isStatic ? 0 : 1;
            }
            Check.yes(kind + " has at most twenty fields", fields <= 20);
        }
    }

    private static void words() throws Exception {
        String code = Files.readString(SOURCE).replaceAll("(?s)/\\*.*?\\*/", "").replaceAll("//[^\n]*", "");
        String[] barred = {
            "->", "::", "\\bcatch\\b", "\\bfinally\\b", "\\bassert\\b", "\\bsynchronized\\b", "\\bstatic \\{",
            "\\bvar\\b", "\\bprotected\\b", "\\brecord\\b", "hashCode", "toString", "Math\\.\\w*Exact", "^package",
            "\\bSystem\\.(?!arraycopy)", "\\bThread\\b", "\\bRandom\\b", "String\\.format", "\\bthrow e\\b",
        };
        for (String word : barred) {
            Check.no("found: " + word, Pattern.compile(word, Pattern.MULTILINE).matcher(code).find());
        }
        Matcher imports = Pattern.compile("(?m)^import .*$").matcher(code);
        while (imports.find()) {
            Check.same("an import", "import java.util.NoSuchElementException;", imports.group());
        }
    }

    /** Each promise has tests of its boundary cases that are named after it. */
    private static void edges() {
        Class<?>[] kinds = {BoardEdgesTest.class, MovesEdgesTest.class, GameEdgesTest.class, SearchEdgesTest.class,
            EndingEdgesTest.class, BookEdgesTest.class};
        int[] tests = new int[50];
        for (Class<?> kind : kinds) {
            for (Method method : kind.getDeclaredMethods()) {
                tests[Check.promise(method.getName())]++;
            }
        }
        for (int promise = 1; promise < tests.length; promise++) {
            Check.yes("promise " + promise + " has tests", tests[promise] > 0);
        }
    }

    private static void lengths() throws Exception {
        int length = 0;
        String name = "";
        for (String line : Files.readAllLines(SOURCE)) {
            boolean begins = line.matches("^( {4}| {8})\\w.*[(].*") && !line.contains(";") && !line.contains(" = ");
            if (begins && !line.trim().startsWith("throws")) {
                length = 0;
                name = line.trim();
            }
            length++;
            if (line.matches("^( {4}| {8})\\}$")) {
                Check.yes(name + " has at most sixty lines", name.isEmpty() || length <= 60);
                name = "";
            }
            Check.yes("a line of at most 120 signs: " + line, line.length() <= 120);
        }
    }
}
