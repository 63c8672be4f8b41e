import java.io.IOException;
import java.lang.reflect.Constructor;
import java.lang.reflect.Field;
import java.lang.reflect.Method;
import java.lang.reflect.Modifier;
import java.nio.file.Files;
import java.nio.file.Path;
import java.util.Arrays;
import java.util.Set;
import java.util.TreeSet;
import java.util.regex.Matcher;
import java.util.regex.Pattern;

/** Those rules of LANGUAGE.md, and the document's face, that can be seen from outside. */
public final class LanguageTest {
    private static final Path SOURCE = Path.of("src/main/java/CoconutShies.java");
    private static final String[] BARRED = {"\\bthrow\\b", "\\bthrows\\b", "\\btry\\b", "\\bcatch\\b",
        "\\bsynchronized\\b", "\\bassert\\b", "\\bimport\\b", "\\bpackage\\b", "->", "::", "\"",
        "Exact\\(", "\\bNaN\\b", "\\bSystem\\.(?!arraycopy)", "\\bThread\\b", "\\brandom\\b",
        "static \\{", "\\bprotected\\b", "@", "\\btoString\\b", "\\bhashCode\\b", "\\bequals\\b"};
    private static final String[] FACE = {"int write(int)", "int wipe()", "int fault()", "int fair()",
        "int about(int)", "int husk(int,int)", "int thrower(int,int)", "int lands(int,int,int)",
        "int toss(int,int,int)", "int set(int)", "int nail(int)", "int pay()", "int blow(int)",
        "int undo()", "int felled(int,int,int)", "int fewest(int,boolean)", "int winds(int,int)",
        "int match(boolean)", "int nails(int)", "int judge(int,int)", "int share(int,boolean)",
        "int see(int,int,int)", "int unsee()", "int holds(int)", "int rests(int)",
        "int odds(int,int,int,int,int,boolean)", "long seed(long)", "int fairs(int)", "int keep(int)",
        "int again(int)"};
    private static final Checks CHECKS = new Checks();

    public static void main(String[] args) throws IOException {
        face();
        members();
        barredWords(withoutComments(Files.readString(SOURCE)));
        CHECKS.end("LanguageTest");
    }

    private static void holds(String what, boolean so) {
        CHECKS.due(what + " (1: so it is)", so ? 1 : 0, 1);
    }

    private static void face() {
        Set<String> found = new TreeSet<>();
        for (Method method : CoconutShies.class.getDeclaredMethods()) {
            if (Modifier.isPublic(method.getModifiers())) {
                StringBuilder told = new StringBuilder(method.getReturnType() + " " + method.getName() + "(");
                for (Class<?> type : method.getParameterTypes()) {
                    told.append(told.charAt(told.length() - 1) == '(' ? "" : ",").append(type);
                }
                found.add(told + ")");
            }
        }
        Set<String> want = new TreeSet<>(Arrays.asList(FACE));
        holds("rule 1: the face is " + found, found.equals(want));
        Set<String> constants = new TreeSet<>();
        for (Field field : CoconutShies.class.getFields()) {
            constants.add(field.getType() + " " + field.getName());
        }
        holds("rule 1: the constants are " + constants,
                constants.equals(Set.of("int UNKNOWN", "int BAD", "int LATE", "int FULL", "int NONE")));
        Constructor<?>[] made = CoconutShies.class.getDeclaredConstructors();
        holds("rule 1: one public constructor",
                made.length == 1 && Modifier.isPublic(made[0].getModifiers()) && made[0].getParameterCount() == 0);
        holds("rule 1: the class is final", Modifier.isFinal(CoconutShies.class.getModifiers()));
    }

    private static void members() {
        Set<String> open = new TreeSet<>();
        for (String told : FACE) {
            open.add(told.substring(told.indexOf(' ') + 1, told.indexOf('(')));
        }
        Class<?>[] inside = CoconutShies.class.getDeclaredClasses();
        holds("rule 11: some twelve classes", inside.length < 12);
        judgeMembers(CoconutShies.class, open, true);
        for (Class<?> one : inside) {
            holds("rule 2: static " + one, Modifier.isStatic(one.getModifiers()));
            judgeMembers(one, open, false);
        }
    }

    private static void judgeMembers(Class<?> one, Set<String> open, boolean outer) {
        int fields = 0;
        for (Field field : one.getDeclaredFields()) {
            int is = field.getModifiers();
            fields += Modifier.isStatic(is) ? 0 : 1;
            holds("rule 5: final " + field, !Modifier.isStatic(is) || Modifier.isFinal(is));
            holds("rule 1: private " + field, !outer || Modifier.isPublic(is) || Modifier.isPrivate(is));
        }
        holds("rule 11: some twenty fields in " + one, fields <= 20);
        for (Method method : one.getDeclaredMethods()) {
            int is = method.getModifiers();
            boolean named = open.contains(method.getName());
            holds("rule 1: " + method, !named || outer && Modifier.isPublic(is));
            holds("rule 1: " + method, !outer || Modifier.isPublic(is) || Modifier.isPrivate(is));
            holds("rule 11: seven parameters of " + method, method.getParameterCount() <= 7);
        }
    }

    private static void barredWords(String code) {
        for (String barred : BARRED) {
            Matcher matcher = Pattern.compile(barred).matcher(code);
            holds("not in the file: " + barred, !matcher.find());
        }
    }

    private static String withoutComments(String code) {
        return code.replaceAll("(?s)/\\*.*?\\*/", " ").replaceAll("//[^\n]*", " ");
    }
}
