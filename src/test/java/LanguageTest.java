import java.io.IOException;
import java.lang.reflect.Constructor;
import java.lang.reflect.Field;
import java.lang.reflect.Method;
import java.lang.reflect.Modifier;
import java.nio.file.Files;
import java.nio.file.Path;
import java.util.ArrayList;
import java.util.HashSet;
import java.util.List;
import java.util.Set;
import java.util.TreeSet;
import java.util.regex.Matcher;
import java.util.regex.Pattern;

/** The rules of ../shared/LANGUAGE.md that can be seen from the class and its text. */
public final class LanguageTest {
    private static final Checks CHECKS = new Checks("LanguageTest");
    private static final String[] METHODS = {"int setLevel(int)", "int setHum(int,int)", "int setOffset(int,int)",
        "int set(int,int)", "int get(int)", "long probe(int,int)", "long read()", "int zero()", "int pass(int)",
        "long log(int,int)", "long latest(int)", "long statistic(int,int)", "long wouldRead(int)", "long ripple(int)",
        "int bestWindow(int,int,int)", "int order(int,int,int,int)", "long levelFor(int)", "int settle()", "int say(int)",
        "int wipe()", "int fault()", "int run()", "int count(int)", "int save(int)", "int restore(int)"};
    private static final String[] CONSTANTS = {"NO_SUCH", "BAD_VALUE", "BAD_TEXT", "TOO_MANY", "NOT_POSSIBLE", "NONE",
        "GONE", "WINDOW", "SLOT", "MODE", "ZERO", "AUTO", "RANGE", "DUAL", "MULTI"};
    private static final String[] FORBIDDEN = {"\\bthrow\\b", "\\bthrows\\b", "\\btry\\b", "\\bcatch\\b", "\\bassert\\b",
        "\\bsynchronized\\b", "->", "::", "\\bimport\\b", "\\bpackage\\b", "Exact\\b", "\\binstanceof\\b", "\\bequals\\b",
        "\\bhashCode\\b", "\\btoString\\b", "\\bdouble\\b", "\\bfloat\\b", "\\bvar\\b", "\\bstatic \\{", "\\bObject\\b",
        "\\bThread\\b", "currentTimeMillis", "nanoTime", "\\bRandom\\b"};

    public static void main(String[] args) throws IOException {
        face();
        classes();
        text();
        lengths();
        CHECKS.finish();
    }

    private static boolean isHidden(int modifiers) {
        return Modifier.isPrivate(modifiers);
    }

    private static String faceOf(Method method) {
        StringBuilder text = new StringBuilder(method.getReturnType() + " " + method.getName() + "(");
        for (int i = 0; i < method.getParameterCount(); i++) {
            text.append(i > 0 ? "," : "").append(method.getParameterTypes()[i]);
        }
        return text.append(")").toString();
    }

    /** Rule 1. */
    private static void face() {
        Set<String> methods = new TreeSet<>();
        for (Method method : SlopeMeter.class.getDeclaredMethods()) {
            if (!isHidden(method.getModifiers()) && !method.isSynthetic()) {
                methods.add(faceOf(method));
            }
        }
        CHECKS.due("the methods are those of the document", methods.equals(new TreeSet<>(List.of(METHODS))) ? 1 : 0, 1);
        Set<String> fields = new TreeSet<>();
        for (Field field : SlopeMeter.class.getDeclaredFields()) {
            if (!isHidden(field.getModifiers())) {
                fields.add(field.getName());
                CHECKS.due("constant " + field.getName(), Modifier.isFinal(field.getModifiers())
                        && Modifier.isStatic(field.getModifiers()) && Modifier.isPublic(field.getModifiers()) ? 1 : 0, 1);
            }
        }
        CHECKS.due("the constants are those of the document", fields.equals(new TreeSet<>(List.of(CONSTANTS))) ? 1 : 0, 1);
        Constructor<?>[] constructors = SlopeMeter.class.getDeclaredConstructors();
        CHECKS.due("constructors", constructors.length, 1);
        CHECKS.due("constructor's parameters", constructors[0].getParameterCount(), 0);
        CHECKS.due("public final", SlopeMeter.class.getModifiers(), Modifier.PUBLIC | Modifier.FINAL);
    }

    /** Rules 1, 2, 5 and 11 for the class and the classes inside it. */
    private static void classes() {
        Set<String> names = new HashSet<>();
        for (String method : METHODS) {
            names.add(method.substring(method.indexOf(' ') + 1, method.indexOf('(')));
        }
        List<Class<?>> all = new ArrayList<>(List.of(SlopeMeter.class.getDeclaredClasses()));
        CHECKS.due("at most twelve classes", all.size() < 12 ? 1 : 0, 1);
        for (Class<?> inside : all) {
            CHECKS.due(inside.getName() + " is static", Modifier.isStatic(inside.getModifiers()) ? 1 : 0, 1);
            CHECKS.due(inside.getName() + " has no class inside", inside.getDeclaredClasses().length, 0);
            for (Method method : inside.getDeclaredMethods()) {
                CHECKS.due(method + " has a name of the face", names.contains(method.getName()) ? 1 : 0, 0);
            }
        }
        all.add(SlopeMeter.class);
        for (Class<?> each : all) {
            int fields = 0;
            for (Field field : each.getDeclaredFields()) {
                boolean isStatic = Modifier.isStatic(field.getModifiers());
                fields += isStatic ? 0 : 1;
                CHECKS.due(field + " is static and not final",
                        isStatic && !Modifier.isFinal(field.getModifiers()) ? 1 : 0, 0);
            }
            CHECKS.due(each.getName() + " has at most twenty fields", fields <= 20 ? 1 : 0, 1);
            Set<String> seen = new HashSet<>();
            for (Method method : each.getDeclaredMethods()) {
                CHECKS.due(method + " has at most seven parameters", method.getParameterCount() <= 7 ? 1 : 0, 1);
                CHECKS.due(method + " shares its name", seen.add(method.getName()) ? 0 : 1, 0);
            }
        }
    }

    /** Rules 4, 6 and 10 as far as words show them. */
    private static void text() throws IOException {
        String source = Files.readString(Path.of("src/main/java/SlopeMeter.java"));
        for (int i = 0; i < source.length(); i++) {
            char sign = source.charAt(i);
            if (sign > 126 || sign < 32 && sign != '\n') {
                CHECKS.due("sign at " + i, sign, ' ');
            }
        }
        String code = source.replaceAll("(?s)/\\*.*?\\*/", "").replaceAll("//[^\n]*", "");
        for (String forbidden : FORBIDDEN) {
            CHECKS.due("the code has " + forbidden, Pattern.compile(forbidden).matcher(code).find() ? 1 : 0, 0);
        }
        Matcher library = Pattern.compile("\\b(Math|System|Long|Integer|Arrays|String|StringBuilder|List|ArrayList)\\.(\\w+)").matcher(code);
        Set<String> allowed = Set.of("Math.min", "Math.max", "Math.abs", "Math.floorMod", "Math.floorDiv", "System.arraycopy");
        while (library.find()) {
            CHECKS.due("the library's " + library.group() + " is allowed", allowed.contains(library.group()) ? 1 : 0, 1);
        }
    }

    /** Rule 11: a method begins at the indentation of its class's members, and ends at the same one. */
    private static void lengths() throws IOException {
        List<String> lines = Files.readAllLines(Path.of("src/main/java/SlopeMeter.java"));
        Pattern begin = Pattern.compile("( {4}| {8})(public |private |static |final )*[\\w\\[\\]]+ \\w+\\(.*\\{");
        int methods = 0;
        for (int first = 0; first < lines.size(); first++) {
            Matcher matcher = begin.matcher(lines.get(first));
            if (!matcher.matches()) {
                continue;
            }
            methods++;
            int last = first;
            while (!lines.get(last).equals(matcher.group(1) + "}")) {
                last++;
            }
            CHECKS.due("line " + (first + 1) + " begins a method of at most sixty lines", last - first < 60 ? 1 : 0, 1);
        }
        CHECKS.due("methods are found", methods > METHODS.length ? 1 : 0, 1);
    }
}
