import java.lang.reflect.Field;
import java.lang.reflect.Member;
import java.lang.reflect.Method;
import java.lang.reflect.Modifier;
import java.nio.file.Files;
import java.nio.file.Path;
import java.util.List;
import java.util.Set;
import java.util.TreeSet;
import java.util.regex.Pattern;

/** Those rules of LANGUAGE.md that a program can see. FaceTest has the public face. */
public final class LanguageTest {
    private static final Answers A = new Answers();
    private static final List<String> RULED_OUT = List.of(
        "\\b(throws?|try|catch|synchronized|assert|import|package|protected|native|volatile|Object)\\b",
        "\\w+Exact\\b", "\\bSystem\\.(?!arraycopy\\b)", "->", "::", "\\bstatic\\s*\\{",
        "\\bnew\\s+\\w+\\s*\\([^()]*\\)\\s*\\{");
    private static final Set<String> TYPES_OF_STATICS = Set.of(
        "int", "long", "boolean", "char", "java.lang.String", "int[]", "long[]", "char[]", "byte[]");
    private static final Set<String> NOT_OF_OWN_CLASSES = Set.of("equals", "hashCode", "toString");

    public static void main(String[] args) throws Exception {
        allElseIsPrivate();
        noPublicNameIsUsedAgain();
        classesInside();
        staticsOf(HireShed.class);
        sourceKeepsRules(Files.readString(Path.of(args[0])));
        A.end("LanguageTest");
    }

    private static void allElseIsPrivate() {
        for (Field each : HireShed.class.getDeclaredFields()) {
            A.holds("rule 1: " + each, isPublicOrPrivate(each));
        }
        for (Method each : HireShed.class.getDeclaredMethods()) {
            A.holds("rule 1: " + each, isPublicOrPrivate(each));
        }
    }

    private static boolean isPublicOrPrivate(Member member) {
        return Modifier.isPublic(member.getModifiers()) || Modifier.isPrivate(member.getModifiers());
    }

    private static Set<String> publicNames() {
        Set<String> names = new TreeSet<>();
        for (Method each : HireShed.class.getMethods()) {
            names.add(each.getName());
        }
        return names;
    }

    private static void noPublicNameIsUsedAgain() {
        Set<String> names = publicNames();
        for (Method each : HireShed.class.getDeclaredMethods()) {
            A.holds("rule 1: the name of " + each,
                Modifier.isPublic(each.getModifiers()) || !names.contains(each.getName()));
        }
    }

    private static void classesInside() {
        Class<?>[] inside = HireShed.class.getDeclaredClasses();
        Set<String> names = publicNames();
        A.holds("rule 11: at most twelve classes", inside.length <= 11);
        for (Class<?> each : inside) {
            A.holds("rule 2: static " + each, Modifier.isStatic(each.getModifiers()));
            A.holds("rule 1: private or package-visible " + each,
                (each.getModifiers() & (Modifier.PUBLIC | Modifier.PROTECTED)) == 0);
            A.holds("rule 11: fields of " + each, each.getDeclaredFields().length <= 20);
            for (Method m : each.getDeclaredMethods()) {
                A.holds("rule 11: parameters of " + m, m.getParameterCount() <= 7);
                A.holds("rule 1: the name of " + m, !names.contains(m.getName()));
                A.holds("rule 6: " + m, !NOT_OF_OWN_CLASSES.contains(m.getName()));
            }
            staticsOf(each);
        }
    }

    private static void staticsOf(Class<?> type) {
        for (Field each : type.getDeclaredFields()) {
            if (Modifier.isStatic(each.getModifiers())) {
                A.holds("rule 5: final " + each, Modifier.isFinal(each.getModifiers()));
                A.holds("rule 5: type of " + each, TYPES_OF_STATICS.contains(each.getType().getTypeName()));
            }
        }
    }

    private static void sourceKeepsRules(String source) {
        String code = source.replaceAll("(?s)/\\*.*?\\*/", "").replaceAll("//.*", "");
        for (String form : RULED_OUT) {
            A.holds("rules 2, 4, 5, 6: no " + form, !Pattern.compile(form).matcher(code).find());
        }
        A.holds("rule 3: characters 0 to 255 alone", source.chars().allMatch(c -> c <= 255));
    }
}
