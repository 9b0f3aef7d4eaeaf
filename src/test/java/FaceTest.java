import java.lang.reflect.Constructor;
import java.lang.reflect.Field;
import java.lang.reflect.Method;
import java.lang.reflect.Modifier;
import java.nio.file.Files;
import java.nio.file.Path;
import java.util.Set;
import java.util.TreeSet;
import java.util.regex.Matcher;
import java.util.regex.Pattern;

/** The public face of the document and those rules of LANGUAGE.md that a look at the text can tell. */
public final class FaceTest {
    private static final Set<String> FACE = Set.of(
        "int told(int)", "int group(int,int)", "int line(int,int,int)", "int build(int)",
        "int shape(int,int,int,int,int,int)", "int call(int)", "int end(int,int)", "int damage(int,int)",
        "int mend(int,int)", "int drift(int)", "int undo(int)", "long run(int,int,int)", "long over(int,int)",
        "int linesFor(int,int,int)", "int bestReserve(int,int,int)", "int write(int,int,int)", "int tear()",
        "int seed(int)", "int keep(int)", "int goBack(int)");
    private static final Set<String> LIBRARY = Set.of("Math.max", "Math.min", "Math.abs", "Math.floorMod", "Integer.bitCount",
        "Arrays.fill", "System.arraycopy");
    private static final Set<String> CONSTANTS = Set.of("NONE", "UNKNOWN", "OUTSIDE", "NOT", "FULL");

    public static void main(String[] args) throws Exception {
        Checks checks = new Checks();
        face(checks);
        constants(checks);
        members(checks);
        text(checks);
        checks.finish();
    }

    private static void face(Checks checks) {
        checks.holds("public and final", Modifier.isPublic(TrunkReserve.class.getModifiers())
            && Modifier.isFinal(TrunkReserve.class.getModifiers()));
        Set<String> seen = new TreeSet<>();
        Set<String> names = new TreeSet<>();
        for (Method m : TrunkReserve.class.getDeclaredMethods()) {
            if (Modifier.isPublic(m.getModifiers())) {
                seen.add(signature(m));
                names.add(m.getName());
                checks.holds(m.getName() + " is no static method", !Modifier.isStatic(m.getModifiers()));
            } else {
                checks.holds(m.getName() + " is private", Modifier.isPrivate(m.getModifiers()));
            }
        }
        checks.holds("the methods are those of the face: " + seen, seen.equals(new TreeSet<>(FACE)));
        for (Method m : TrunkReserve.class.getDeclaredMethods()) {
            checks.holds(m + " is public or bears no name of the face",
                Modifier.isPublic(m.getModifiers()) || !names.contains(m.getName()));
        }
        for (Class<?> inside : TrunkReserve.class.getDeclaredClasses()) {
            checks.holds(inside + " is static", Modifier.isStatic(inside.getModifiers()));
            checks.holds(inside + " is not public", !Modifier.isPublic(inside.getModifiers()));
            for (Method m : inside.getDeclaredMethods()) {
                checks.holds(m + " bears no name of the face", !names.contains(m.getName()));
                checks.holds(m + " has seven parameters at most", m.getParameterCount() <= 7);
            }
            checks.holds(inside + " has twenty fields at most", inside.getDeclaredFields().length <= 20);
            for (Field f : inside.getDeclaredFields()) {
                checks.holds(f + " is no static state",
                    !Modifier.isStatic(f.getModifiers()) || Modifier.isFinal(f.getModifiers()));
            }
        }
        checks.holds("twelve classes at most", TrunkReserve.class.getDeclaredClasses().length + 1 <= 12);
        Constructor<?>[] made = TrunkReserve.class.getDeclaredConstructors();
        checks.holds("one public constructor of nothing", made.length == 1
            && Modifier.isPublic(made[0].getModifiers()) && made[0].getParameterCount() == 0);
    }

    private static String signature(Method m) {
        StringBuilder text = new StringBuilder(m.getReturnType() + " " + m.getName() + "(");
        for (int i = 0; i < m.getParameterCount(); i++) {
            text.append(i == 0 ? "" : ",").append(m.getParameterTypes()[i]);
        }
        return text.append(")").toString();
    }

    private static void constants(Checks checks) {
        checks.due("NONE", TrunkReserve.NONE, -1);
        checks.due("UNKNOWN", TrunkReserve.UNKNOWN, -1000000001);
        checks.due("OUTSIDE", TrunkReserve.OUTSIDE, -1000000002);
        checks.due("NOT", TrunkReserve.NOT, -1000000003);
        checks.due("FULL", TrunkReserve.FULL, -1000000004);
    }

    private static void members(Checks checks) {
        for (Field f : TrunkReserve.class.getDeclaredFields()) {
            int is = f.getModifiers();
            if (CONSTANTS.contains(f.getName())) {
                checks.holds(f + " is a public constant", Modifier.isPublic(is) && Modifier.isStatic(is) && Modifier.isFinal(is));
            } else {
                checks.holds(f + " is private", Modifier.isPrivate(is));
                checks.holds(f + " is final if static", !Modifier.isStatic(is) || Modifier.isFinal(is));
            }
        }
    }

    private static void library(Checks checks, String code) {
        Matcher used = Pattern.compile("\\b(Math|Integer|Long|Arrays|System|String|List|ArrayList|StringBuilder)\\.\\w+")
            .matcher(code);
        while (used.find()) {
            checks.holds(used.group() + " is of the library that LANGUAGE.md leaves", LIBRARY.contains(used.group()));
        }
    }

    private static void text(Checks checks) throws Exception {
        String whole = Files.readString(Path.of("src/main/java/TrunkReserve.java"));
        checks.holds("only signs 1 to 127", whole.chars().allMatch(c -> c >= 1 && c <= 127));
        String code = whole.replaceAll("(?s)/\\*.*?\\*/", "").replaceAll("//[^\n]*", "");
        for (String word : new String[] {"throw", "throws", "try", "catch", "synchronized", "assert", "package",
            "protected", "double", "float", "Object", "hashCode", "toString", "System.out", "native"}) {
            checks.holds("no " + word, !Pattern.compile("\\b" + Pattern.quote(word) + "\\b").matcher(code).find());
        }
        library(checks, code);
        checks.holds("no lambda, no method reference", !code.contains("->") && !code.contains("::"));
        checks.holds("no text at all", code.indexOf('"') < 0);
        Matcher imports = Pattern.compile("import ([^;]*);").matcher(code);
        while (imports.find()) {
            checks.holds("import of " + imports.group(1), imports.group(1).equals("java.util.Arrays"));
        }
    }
}
