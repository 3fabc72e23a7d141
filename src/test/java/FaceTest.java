import java.lang.reflect.Constructor;
import java.lang.reflect.Field;
import java.lang.reflect.Method;
import java.util.List;
import java.util.Set;
import java.util.TreeSet;

/** The document's section 'The public face': what stands there is public, and nothing else is. */
public final class FaceTest {
    private static final Answers A = new Answers();
    /** As reflection writes them, so that a static or throwing one, or one of another type, is another text. */
    private static final Set<String> METHODS = new TreeSet<>(List.of(
        "public int HireShed.tool(int,int,int)",
        "public int HireShed.ask(int,int,int)",
        "public int HireShed.trace(int)",
        "public int HireShed.hire(int,int)",
        "public int HireShed.back(int)",
        "public int HireShed.service(int)",
        "public int HireShed.day(int)",
        "public long HireShed.account(int)",
        "public int HireShed.told(int,int)",
        "public int HireShed.count(int)"));
    private static final Set<String> CONSTANTS = new TreeSet<>(List.of(
        "public static final int HireShed.NONE",
        "public static final int HireShed.BAD",
        "public static final int HireShed.NO",
        "public static final int HireShed.FULL"));

    public static void main(String[] args) {
        theClass();
        theConstants();
        theConstructor();
        theMethods();
        A.end("FaceTest");
    }

    private static void theClass() {
        String head = HireShed.class.toGenericString();
        A.holds("public final class HireShed, and not " + head, head.equals("public final class HireShed"));
        A.holds("it is below no class of its own", HireShed.class.getSuperclass() == Object.class);
        A.due("interfaces that it is told to have", HireShed.class.getInterfaces().length, 0);
        A.due("public classes inside", HireShed.class.getClasses().length, 0);
    }

    private static void theConstants() {
        Set<String> found = new TreeSet<>();
        for (Field each : HireShed.class.getFields()) {
            found.add(each.toGenericString());
        }
        A.holds("the constants " + found, found.equals(CONSTANTS));
        A.due("NONE", HireShed.NONE, -1);
        A.due("BAD", HireShed.BAD, -2);
        A.due("NO", HireShed.NO, -3);
        A.due("FULL", HireShed.FULL, -4);
    }

    private static void theConstructor() {
        Constructor<?>[] made = HireShed.class.getDeclaredConstructors();
        A.due("constructors", made.length, 1);
        String text = made[0].toGenericString();
        A.holds("public HireShed(), and not " + text, text.equals("public HireShed()"));
    }

    private static void theMethods() {
        Set<String> found = new TreeSet<>();
        for (Method each : HireShed.class.getMethods()) {
            if (each.getDeclaringClass() != Object.class) {
                found.add(each.toGenericString());
            }
        }
        A.holds("the methods " + found, found.equals(METHODS));
    }
}
