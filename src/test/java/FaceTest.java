import java.io.IOException;
import java.lang.reflect.Field;
import java.lang.reflect.Member;
import java.lang.reflect.Method;
import java.lang.reflect.Modifier;
import java.nio.file.Files;
import java.nio.file.Path;
import java.util.Arrays;
import java.util.Set;
import java.util.TreeSet;
import java.util.regex.Matcher;
import java.util.regex.Pattern;

/** The public face of the class, and those rules of LANGUAGE.md that a look at names and words can tell. */
public final class FaceTest {
    private static final Set<String> METHODS = new TreeSet<>(Arrays.asList(
        "int set(int, int)", "int begin(int, int)", "int round(int, int)", "int play()", "int run()", "int player(int, int)", "int count(int)",
        "int forced(int, int)", "int ahead(int, int)", "int bestBid()", "int bestAnswer(int)", "int keeps()", "int leastHours(int)",
        "int put(long)", "int wipe()", "int fault()", "int undo()", "int save(int)", "int restore(int)"));
    private static final Set<String> CONSTANTS = new TreeSet<>(Arrays.asList(
        "NO_SUCH", "BAD_VALUE", "BAD_TEXT", "TOO_MANY", "NOT_POSSIBLE", "NONE", "END", "LOAN", "PAYS", "TIE"));
    private static final String[] WORDS = {"throw", "throws", "try", "catch", "finally", "synchronized", "assert", "import", "package", "volatile", "record",
        "native", "sealed", "permits", "var", "yield", "float", "double", "equals", "hashCode", "toString", "Object", "System", "Thread", "->", "::"};
    private static int wrong = 0;

    private static void check(String what, boolean holds) {
        if (!holds) {
            wrong++;
            System.out.println("not so: " + what);
        }
    }

    private static String told(Method method) {
        StringBuilder types = new StringBuilder();
        for (Class<?> type : method.getParameterTypes()) {
            types.append(types.length() == 0 ? "" : ", ").append(type.getSimpleName());
        }
        return method.getReturnType().getSimpleName() + " " + method.getName() + "(" + types + ")";
    }

    private static boolean isPublic(Member member) {
        return Modifier.isPublic(member.getModifiers());
    }

    private static void face(Class<?> face) {
        check("the class is public and final", Modifier.isPublic(face.getModifiers()) && Modifier.isFinal(face.getModifiers()));
        check("one public constructor", face.getDeclaredConstructors().length == 1 && face.getConstructors().length == 1
            && face.getConstructors()[0].getParameterCount() == 0);
        Set<String> methods = new TreeSet<>();
        Set<String> names = new TreeSet<>();
        for (Method method : face.getDeclaredMethods()) {
            if (isPublic(method)) {
                methods.add(told(method));
                names.add(method.getName());
                check(method + " is not static", !Modifier.isStatic(method.getModifiers()));
            }
        }
        check("the methods are those of the document: " + methods, methods.equals(METHODS));
        Set<String> constants = new TreeSet<>();
        for (Field field : face.getDeclaredFields()) {
            if (isPublic(field)) {
                constants.add(field.getName());
                check(field + " is a constant", Modifier.isStatic(field.getModifiers()) && Modifier.isFinal(field.getModifiers()));
                check(field + " is an int", field.getType() == int.class);
            }
        }
        check("the constants are those of the document: " + constants, constants.equals(CONSTANTS));
        hidden(face, names);
    }

    /** All else is private, and nothing static can change. */
    private static void hidden(Class<?> face, Set<String> names) {
        for (Method method : face.getDeclaredMethods()) {
            check(method + " is public or private", isPublic(method) || Modifier.isPrivate(method.getModifiers()));
        }
        for (Field field : face.getDeclaredFields()) {
            check(field + " is public or private", isPublic(field) || Modifier.isPrivate(field.getModifiers()));
        }
        Class<?>[] inside = face.getDeclaredClasses();
        check("at most twelve classes", inside.length < 12);
        for (Class<?> one : inside) {
            check(one + " is static, and not public", Modifier.isStatic(one.getModifiers()) && !Modifier.isPublic(one.getModifiers()));
            for (Method method : one.getDeclaredMethods()) {
                check(method + " bears no public name", !names.contains(method.getName()));
                check(method + " has at most seven parameters", method.getParameterCount() <= 7);
            }
            statics(one);
        }
        statics(face);
    }

    private static void statics(Class<?> one) {
        int own = 0;
        for (Field field : one.getDeclaredFields()) {
            boolean isStatic = Modifier.isStatic(field.getModifiers());
            own += isStatic ? 0 : 1;
            check(field + " is final or not static", !isStatic || Modifier.isFinal(field.getModifiers()) && field.getType().isPrimitive());
        }
        check(one + " has at most twenty fields", own <= 20);
    }

    private static void words() throws IOException {
        String source = Files.readString(Path.of("src/main/java/BorrowedHours.java"));
        String code = source.replaceAll("(?s)/\\*.*?\\*/", " ").replaceAll("//[^\n]*", " ");
        for (String word : WORDS) {
            boolean isWord = Character.isLetter(word.charAt(0));
            Matcher matcher = Pattern.compile(isWord ? "\\b" + word + "\\b" : Pattern.quote(word)).matcher(code);
            check("'" + word + "' does not stand in the class", !matcher.find());
        }
        check("all signs are plain", source.chars().allMatch(c -> c == '\n' || c >= 32 && c < 127));
    }

    public static void main(String[] args) throws IOException {
        face(BorrowedHours.class);
        words();
        System.out.println(wrong == 0 ? "the face is as due" : wrong + " things are not so");
        if (wrong != 0) {
            System.exit(1);
        }
    }
}
