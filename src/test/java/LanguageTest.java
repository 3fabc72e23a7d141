import java.lang.reflect.Constructor;
import java.lang.reflect.Field;
import java.lang.reflect.Method;
import java.lang.reflect.Modifier;
import java.nio.file.Files;
import java.nio.file.Path;
import java.util.List;
import java.util.Set;
import java.util.TreeSet;
import java.util.regex.Matcher;
import java.util.regex.Pattern;

/** The document's face, and those rules of LANGUAGE.md that can be seen without reading the code. */
public final class LanguageTest {
    private static final Answers A = new Answers();
    private static final Set<String> FACE = new TreeSet<>(List.of(
        "int tool(int,int,int)", "int ask(int,int,int)", "int trace(int)", "int hire(int,int)", "int back(int)",
        "int service(int)", "int day(int)", "long account(int)", "int told(int,int)", "int count(int)"));
    private static final List<String> RULED_OUT = List.of(
        "throw", "try", "catch", "synchronized", "assert", "import", "package", "protected", "native", "volatile",
        "->", "::", "\\w+Exact", "static\\s*\\{", "Object", "System\\.(?!arraycopy)\\w+");

    public static void main(String[] args) throws Exception {
        faceIsWhole();
        nothingElseIsSeen();
        classesInside();
        sourceKeepsRules(Files.readString(Path.of(args[0])));
        A.end("LanguageTest");
    }

    private static void faceIsWhole() {
        int modifiers = HireShed.class.getModifiers();
        A.holds("rule 1: public and final", Modifier.isPublic(modifiers) && Modifier.isFinal(modifiers));
        Set<String> found = new TreeSet<>();
        for (Method m : HireShed.class.getDeclaredMethods()) {
            if (Modifier.isPublic(m.getModifiers()) && !Modifier.isStatic(m.getModifiers())) {
                found.add(textOf(m));
            }
        }
        A.holds("rule 1: the methods " + found, found.equals(FACE));
        Constructor<?>[] made = HireShed.class.getDeclaredConstructors();
        A.holds("rule 1: one public constructor without parameters",
            made.length == 1 && made[0].getParameterCount() == 0 && Modifier.isPublic(made[0].getModifiers()));
        A.due("NONE", HireShed.NONE, -1);
        A.due("BAD", HireShed.BAD, -2);
        A.due("NO", HireShed.NO, -3);
        A.due("FULL", HireShed.FULL, -4);
    }

    private static String textOf(Method m) {
        StringBuilder text = new StringBuilder(m.getReturnType() + " " + m.getName() + "(");
        for (Class<?> type : m.getParameterTypes()) {
            text.append(text.charAt(text.length() - 1) == '(' ? "" : ",").append(type);
        }
        return text.append(")").toString();
    }

    private static void nothingElseIsSeen() {
        Set<String> constants = new TreeSet<>(List.of("NONE", "BAD", "NO", "FULL"));
        for (Field f : HireShed.class.getDeclaredFields()) {
            int m = f.getModifiers();
            boolean shown = constants.contains(f.getName());
            A.holds("rule 1: field " + f.getName(), shown ? Modifier.isPublic(m) : Modifier.isPrivate(m));
            A.holds("rule 5: static " + f.getName(), !Modifier.isStatic(m) || Modifier.isFinal(m));
        }
        for (Method m : HireShed.class.getDeclaredMethods()) {
            boolean shown = FACE.contains(textOf(m));
            A.holds("rule 1: method " + m.getName(), shown || Modifier.isPrivate(m.getModifiers()));
        }
    }

    private static void classesInside() {
        Class<?>[] inside = HireShed.class.getDeclaredClasses();
        A.holds("rule 11: at most twelve classes", inside.length <= 11);
        Set<String> names = new TreeSet<>();
        for (String method : FACE) {
            names.add(method.substring(method.indexOf(' ') + 1, method.indexOf('(')));
        }
        for (Class<?> c : inside) {
            A.holds("rule 2: static " + c.getName(), Modifier.isStatic(c.getModifiers()));
            A.holds("rule 1: not public " + c.getName(), !Modifier.isPublic(c.getModifiers()));
            A.holds("rule 11: fields of " + c.getName(), c.getDeclaredFields().length <= 20);
            for (Method m : c.getDeclaredMethods()) {
                A.holds("rule 11: parameters of " + m.getName(), m.getParameterCount() <= 7);
                A.holds("rule 1: the name " + m.getName(), !names.contains(m.getName()));
            }
        }
    }

    private static void sourceKeepsRules(String source) {
        String code = source.replaceAll("(?s)/\\*.*?\\*/", "").replaceAll("//.*", "");
        for (String word : RULED_OUT) {
            String edge = Character.isLetter(word.charAt(0)) ? "\\b" : "";
            Matcher m = Pattern.compile(edge + word + edge.replace("\\b", "(?!\\w)")).matcher(code);
            A.holds("rules 2, 4, 5, 6: no " + word, !m.find());
        }
        A.holds("rule 3: characters 0 to 255 alone", source.chars().allMatch(c -> c <= 255));
    }
}
