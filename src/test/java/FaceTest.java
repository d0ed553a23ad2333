import java.lang.reflect.Field;
import java.lang.reflect.Method;
import java.lang.reflect.Modifier;
import java.nio.file.Files;
import java.nio.file.Path;
import java.util.ArrayList;
import java.util.List;
import java.util.Set;
import java.util.TreeSet;
import java.util.regex.Matcher;
import java.util.regex.Pattern;

/** The public face of the document, and those rules of LANGUAGE.md that can be seen from outside. */
public final class FaceTest {
    private static final String[] FACE = {
        "int appendInput(int,int,int,int,int)", "boolean truncateInput(int)", "int loadRoad()", "int errorCode()",
        "int errorOffset()", "int count(int) A", "int setting(int) A", "int cell(int,int) IA", "long worn(int) I",
        "long capacity(int) I", "int layer(int,int,int) IA", "int core(int,int) IA", "int load(int,int) IA",
        "long base(int) I", "long baseOf(int,int) I", "int heaviest(int) I", "long units(int) I", "int failsBy(int) I",
        "int yearsLeft(int) I", "int nthCell(int) I", "int laneYears(int) I", "int firstFailing(int) I",
        "int failing(int) A", "int rutIn(int,int) IA", "long wornIn(int,int) IA", "int countIn(int,int) IA",
        "int yearsWith(int,int) IA", "int yearsIfClosed(int,int) I", "int safestClosing()", "int weakest() N",
        "int discardTells(int) I", "int nextCore()", "int cost(int,int,int) IA", "int whyNot(int,int,int) IA",
        "int yearsBehind(int,int,int) IA", "int cheapest(int,int) IA", "int planCost(int) A", "double meanRut(int) I",
        "float wornShare(int) I", "int pass(int) AS", "int drill(int,int,int) IAS", "int addLayer(int,int,int) IAS",
        "int discard(int) I", "int measure(int,int) IA", "int addLoad(int,int,int,int,int,int) IAS",
        "int removeLoad(int) I", "int setCount(int,int) IA", "boolean close(int,boolean) I",
        "int patch(int,int,int) IA", "int set(int,int) A", "int give(int) A", "int undo() S", "int printCell(int) I",
        "int printLane(int) I", "int printLoads()", "int outputByte(int)", "int saveState()", "int restoreState() S"};
    private static final String[] CONSTANTS = {"NONE -1", "NO_ERROR 0", "SYNTAX 1", "OUT_OF_RANGE 2", "REPEATED 3",
        "TOO_MANY 4", "FILL 1", "OVERLAY 2", "REBUILD 3"};

    public static void main(String[] args) throws Exception {
        face();
        constants();
        nestedClasses();
        source();
        Check.finish("FaceTest");
    }

    private static String signature(Method method) {
        StringBuilder text = new StringBuilder(method.getReturnType().getName() + " " + method.getName() + "(");
        for (Class<?> type : method.getParameterTypes()) {
            text.append(text.charAt(text.length() - 1) == '(' ? "" : ",").append(type.getName());
        }
        text.append(")");
        for (Class<?> type : method.getExceptionTypes()) {
            String name = type.getSimpleName();
            String letter = name.equals("IllegalStateException") ? "S" : name.equals("IllegalArgumentException") ? "A"
                    : name.substring(0, 1);
            text.append(text.charAt(text.length() - 1) == ')' ? " " : "").append(letter);
        }
        return text.toString();
    }

    private static void face() throws Exception {
        Check.promise(1);
        Set<String> got = new TreeSet<>();
        Set<String> names = new TreeSet<>();
        for (Method method : RoadWear.class.getDeclaredMethods()) {
            boolean isPublic = Modifier.isPublic(method.getModifiers());
            if (isPublic) {
                Check.due(method.getName() + " is of the object", Modifier.isStatic(method.getModifiers()), false);
                got.add(signature(method));
                names.add(method.getName());
            } else {
                Check.due(method.getName() + " is private", Modifier.isPrivate(method.getModifiers()), true);
            }
            Check.due("parameters of " + method.getName(), method.getParameterCount() <= 7, true);
        }
        Check.due("the face", got.toString(), new TreeSet<>(List.of(FACE)).toString());
        for (Method method : RoadWear.class.getDeclaredMethods()) {
            boolean isPublic = Modifier.isPublic(method.getModifiers());
            Check.due("the name " + method.getName(), isPublic || !names.contains(method.getName()), true);
        }
        Check.due("public and final", RoadWear.class.getModifiers(), Modifier.PUBLIC | Modifier.FINAL);
        Check.due("constructors", RoadWear.class.getDeclaredConstructors().length, 1);
        Check.due("constructor", Modifier.isPublic(RoadWear.class.getConstructor().getModifiers()), true);
    }

    private static void constants() throws Exception {
        Set<String> got = new TreeSet<>();
        for (Field field : RoadWear.class.getDeclaredFields()) {
            if (Modifier.isPublic(field.getModifiers())) {
                Check.due(field.getName(), field.getModifiers(), Modifier.PUBLIC | Modifier.STATIC | Modifier.FINAL);
                got.add(field.getName() + " " + field.getInt(null));
            } else {
                Check.due(field.getName() + " is private", Modifier.isPrivate(field.getModifiers()), true);
            }
        }
        Check.due("the constants", got.toString(), new TreeSet<>(List.of(CONSTANTS)).toString());
    }

    private static void nestedClasses() {
        List<Class<?>> classes = new ArrayList<>(List.of(RoadWear.class.getDeclaredClasses()));
        classes.add(RoadWear.class);
        Check.due("at most twelve classes", classes.size() <= 12, true);
        for (Class<?> one : classes) {
            int fields = 0;
            for (Field field : one.getDeclaredFields()) {
                int modifiers = field.getModifiers();
                fields += Modifier.isStatic(modifiers) ? 0 : 1;
                Check.due(field + " static and final", Modifier.isStatic(modifiers) && !Modifier.isFinal(modifiers), false);
            }
            Check.due("at most twenty fields in " + one, fields <= 20, true);
            Check.due("static " + one, one == RoadWear.class || Modifier.isStatic(one.getModifiers()), true);
            Check.due("not public " + one, one == RoadWear.class || !Modifier.isPublic(one.getModifiers()), true);
            for (Method method : one.getDeclaredMethods()) {
                Check.due("parameters of " + method.getName(), method.getParameterCount() <= 7, true);
            }
        }
    }

    private static void source() throws Exception {
        String text = Files.readString(Path.of("src/main/java/RoadWear.java"));
        String code = text.replaceAll("(?s)/\\*.*?\\*/", "").replaceAll("//[^\n]*", "");
        String[] forbidden = {"->", "::", "\\bsynchronized\\b", "\\bassert\\b", "\\bfinally\\b", "\\bcatch\\b",
            "\\bstatic\\s*\\{", "\\bpackage\\b", "\\bthread\\b", "Exact\\(", "\"\\s*\\+", "\\+\\s*\"", "\\bnative\\b"};
        for (String pattern : forbidden) {
            Check.due("no " + pattern, Pattern.compile(pattern).matcher(code).find(), false);
        }
        Set<String> imports = new TreeSet<>();
        Matcher matcher = Pattern.compile("import ([^;]+);").matcher(code);
        while (matcher.find()) {
            imports.add(matcher.group(1));
        }
        Check.due("imports", imports.toString(), "[java.util.Arrays, java.util.NoSuchElementException]");
        int start = 0;
        String[] lines = text.split("\n");
        for (int line = 0; line < lines.length; line++) {
            boolean head = lines[line].matches(" {4,8}[a-zA-Z].*[({]$") && !lines[line].contains(" class ");
            start = head ? line : start;
            boolean end = lines[line].equals("    }") || lines[line].equals("        }");
            Check.due("the method that ends in line " + (line + 1) + " is short", !end || line - start <= 60, true);
        }
    }
}
