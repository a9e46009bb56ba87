import java.lang.reflect.Constructor;
import java.lang.reflect.Field;
import java.lang.reflect.Method;
import java.lang.reflect.Modifier;
import java.nio.file.Files;
import java.nio.file.Path;
import java.util.HashSet;
import java.util.Set;
import java.util.TreeSet;
import java.util.regex.Matcher;
import java.util.regex.Pattern;

/** What of ../shared/LANGUAGE.md can be seen from the source and the compiled classes; run at the project's root. */
public final class LanguageTest {
    private static final Set<String> FACE = Set.of(
        "setCode(int,int,int,int)int", "setDepth(int)int", "send()int", "sendTail()int", "flip(int)int",
        "erase(int)int", "take(int)int", "hear()int", "finish(boolean)int", "reset()int", "type(char)int",
        "clearText()int", "undo()int", "keep()int", "restore()int", "step(int,int,int)int", "line(int,int)int",
        "sent(int)int", "released(int)int", "metric(int)int", "survivor(int,int)int", "agreed()int",
        "freeDistance()int", "hasIdleRing()int", "wrongBits()int", "count(int)int");
    private static final Set<String> CONSTANTS = Set.of("UNKNOWN", "BAD_VALUE", "FULL", "NOT_POSSIBLE", "NONE");
    private static final Set<String> IMPORTS = Set.of("java.util.Arrays", "java.util.ArrayList", "java.util.List",
        "java.util.Iterator");
    private static final Set<String> CALLS = Set.of("Arrays.fill", "Arrays.copyOf", "Arrays.copyOfRange",
        "System.arraycopy", "List.of");

    private static int wrong = 0;

    private static void dueThat(boolean holds, String what) {
        if (!holds) {
            wrong++;
            System.out.println("language: " + what);
        }
    }

    public static void main(String[] args) throws Exception {
        String source = Files.readString(Path.of("src/main/java/LikelyWalks.java"));
        String code = source.replaceAll("(?s)/\\*.*?\\*/", "").replaceAll("//[^\n]*", "");
        words(code);
        face();
        insides();
        System.out.println("language: " + wrong + " faults");
        if (wrong != 0) {
            System.exit(1);
        }
    }

    private static void words(String code) {
        for (char c : code.toCharArray()) {
            dueThat(c < 128, "a sign above 127");
        }
        String[] forbidden = {"package", "throw", "throws", "try", "catch", "synchronized", "assert", "protected",
            "Object", "hashCode", "Thread", "Random"};
        for (String word : forbidden) {
            dueThat(!Pattern.compile("\\b" + word + "\\b").matcher(code).find(), word + " stands in the source");
        }
        dueThat(!code.contains("::"), "a method reference stands in the source");
        dueThat(!Pattern.compile("(?m)^(?!\\s*(case|default)\\b).*->").matcher(code).find(), "a lambda stands there");
        dueThat(!Pattern.compile("\\bstatic\\s*\\{").matcher(code).find(), "a static block stands in the source");
        Matcher imports = Pattern.compile("import ([^;]+);").matcher(code);
        while (imports.find()) {
            dueThat(IMPORTS.contains(imports.group(1)), "import " + imports.group(1));
        }
        Matcher calls = Pattern.compile("\\b(System|Arrays|List|Integer|Long|Math|String)\\.(\\w+)\\(").matcher(code);
        while (calls.find()) {
            boolean isOfNumbers = calls.group(1).matches("Integer|Long|Math") && !calls.group(2).endsWith("Exact");
            String call = calls.group(1) + "." + calls.group(2);
            dueThat(isOfNumbers || CALLS.contains(call), "call of " + call);
        }
    }

    private static void face() {
        Set<String> found = new TreeSet<>();
        Set<String> publicNames = new HashSet<>();
        for (Method method : LikelyWalks.class.getDeclaredMethods()) {
            if (Modifier.isPublic(method.getModifiers())) {
                found.add(signature(method));
                publicNames.add(method.getName());
            } else {
                dueThat(Modifier.isPrivate(method.getModifiers()), method + " is neither public nor private");
            }
        }
        dueThat(found.equals(FACE), "the public methods are " + found);
        for (Method method : LikelyWalks.class.getDeclaredMethods()) {
            boolean isPrivate = Modifier.isPrivate(method.getModifiers());
            dueThat(!isPrivate || !publicNames.contains(method.getName()), "the name of " + method);
        }
        Set<String> constants = new TreeSet<>();
        for (Field field : LikelyWalks.class.getDeclaredFields()) {
            int kind = field.getModifiers();
            if (Modifier.isPublic(kind)) {
                constants.add(field.getName());
                dueThat(Modifier.isStatic(kind) && Modifier.isFinal(kind), field + " is no constant");
            } else {
                dueThat(Modifier.isPrivate(kind), field + " is neither public nor private");
            }
            dueThat(!Modifier.isStatic(kind) || Modifier.isFinal(kind), field + " is static state");
        }
        dueThat(constants.equals(CONSTANTS), "the public fields are " + constants);
        Constructor<?>[] constructors = LikelyWalks.class.getDeclaredConstructors();
        dueThat(constructors.length == 1 && constructors[0].getParameterCount() == 0
            && Modifier.isPublic(constructors[0].getModifiers()), "the constructor");
        dueThat(Modifier.isFinal(LikelyWalks.class.getModifiers()), "the class is not final");
    }

    private static String signature(Method method) {
        StringBuilder text = new StringBuilder(method.getName()).append('(');
        for (Class<?> type : method.getParameterTypes()) {
            text.append(text.charAt(text.length() - 1) == '(' ? "" : ",").append(type.getName());
        }
        return text.append(')').append(method.getReturnType().getName()).toString();
    }

    private static void insides() {
        Set<String> publicNames = new HashSet<>();
        for (Method method : LikelyWalks.class.getMethods()) {
            if (method.getDeclaringClass() == LikelyWalks.class) {
                publicNames.add(method.getName());
            }
        }
        Class<?>[] insides = LikelyWalks.class.getDeclaredClasses();
        dueThat(insides.length <= 12, "too many classes");
        for (Class<?> inside : insides) {
            dueThat(Modifier.isStatic(inside.getModifiers()), inside + " is not static");
            dueThat(!Modifier.isPublic(inside.getModifiers()), inside + " is public");
            int fields = 0;
            for (Field field : inside.getDeclaredFields()) {
                fields += Modifier.isStatic(field.getModifiers()) ? 0 : 1;
            }
            dueThat(fields <= 20, inside + " has too many fields");
            for (Method method : inside.getDeclaredMethods()) {
                dueThat(!publicNames.contains(method.getName()), "the name of " + method);
                dueThat(method.getParameterCount() <= 7, "the parameters of " + method);
            }
        }
    }
}
