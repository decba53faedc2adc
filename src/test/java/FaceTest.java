import java.lang.reflect.Constructor;
import java.lang.reflect.Field;
import java.lang.reflect.Method;
import java.lang.reflect.Modifier;
import java.nio.file.Files;
import java.nio.file.Path;
import java.util.ArrayList;
import java.util.Arrays;
import java.util.HashSet;
import java.util.List;
import java.util.Set;
import java.util.regex.Matcher;
import java.util.regex.Pattern;
import java.util.stream.Collectors;

/** The face of the document, and the rules of the language that a test can see. */
public final class FaceTest {
    private static final String[] FACE = {
        "int type(char, char, char, char) A S", "int wipe()", "int fault()", "int addRule(int) A S", "int mend(int) I A S",
        "int wake(int) I S", "int setAside(int) I S", "int setBudget(int, int) A", "int arrive(int, int, int, int) I A S",
        "int release(int) I S", "int discard(int) I S", "int take(int) I S", "int setTrust(int, int) I A",
        "int setQuota(int, int) I A", "int pass(int) A S", "int hour()", "int length()", "int rules()", "int programs()",
        "boolean isAside(int) I", "int versions(int) I", "int programOf(int, int) I", "int memory(int, boolean) I",
        "int strikes(int) I", "int runs(int, boolean) I", "int steps(int) I", "int most(int) I", "int waiting(int) I",
        "int waitingAt(int, int) I A", "int letters()", "int state(int) I", "int folderOf(int) I", "int meantFor(int) I",
        "int flags(int) I", "int cost(int) I", "int way(int) I", "int wayRule(int, int) I", "int wayEnd(int, int) I",
        "int meantAnew(int) I", "int flagsAnew(int) I", "int costAnew(int) I", "int endAnew(int, int) I", "int load(int) I",
        "int trust(int) I"};

    private FaceTest() {
    }

    public static void main(String[] args) throws Exception {
        face();
        insides();
        source(Files.readString(Path.of(System.getProperty("program", "src/main/java/SievePost.java"))));
        room();
        Check.end();
    }

    private static void face() {
        Check.due("the class is public and final", Modifier.toString(SievePost.class.getModifiers()), "public final");
        Constructor<?>[] makers = SievePost.class.getDeclaredConstructors();
        Check.due("constructors", makers.length, 1);
        Check.due("the constructor", makers[0].toString(), "public SievePost()");
        Set<String> seen = new HashSet<>();
        for (Method method : SievePost.class.getDeclaredMethods()) {
            if (!Modifier.isPrivate(method.getModifiers()) && !method.isSynthetic()) {
                seen.add(told(method));
            }
        }
        Check.due("the methods of the face", seen, new HashSet<>(Arrays.asList(FACE)));
        for (Field field : SievePost.class.getDeclaredFields()) {
            Check.due("private field " + field.getName(), Modifier.isPrivate(field.getModifiers()), true);
        }
    }

    private static String told(Method method) {
        String parameters = Arrays.stream(method.getParameterTypes()).map(Class::getName).collect(Collectors.joining(", "));
        String thrown = Arrays.stream(method.getExceptionTypes()).map(FaceTest::letterOf).collect(Collectors.joining());
        String more = Modifier.isStatic(method.getModifiers()) ? " static" : "";
        return method.getReturnType() + " " + method.getName() + "(" + parameters + ")" + thrown + more;
    }

    private static String letterOf(Class<?> thrown) {
        return thrown == IndexOutOfBoundsException.class ? " I" : thrown == IllegalArgumentException.class ? " A"
            : thrown == IllegalStateException.class ? " S" : " " + thrown.getName();
    }

    private static void insides() {
        List<Class<?>> all = new ArrayList<>(List.of(SievePost.class.getDeclaredClasses()));
        Check.due("at most some twelve classes", all.size() < 12, true);
        Set<String> names = Arrays.stream(FACE).map(told -> told.replaceAll("\\(.*|^\\w+ ", "")).collect(Collectors.toSet());
        for (Class<?> one : all) {
            Check.due(one + " is static", Modifier.isStatic(one.getModifiers()), true);
            Check.due(one + " is private", Modifier.isPrivate(one.getModifiers()), true);
            for (Method method : one.getDeclaredMethods()) {
                Check.due(one + "." + method.getName() + " has a name of its own", names.contains(method.getName()), false);
            }
        }
        all.add(SievePost.class);
        for (Class<?> one : all) {
            int fields = 0;
            for (Field field : one.getDeclaredFields()) {
                boolean isStatic = Modifier.isStatic(field.getModifiers());
                fields += isStatic ? 0 : 1;
                boolean isFinal = Modifier.isFinal(field.getModifiers());
                Check.due(field + " is final, if it is static", !isStatic || isFinal, true);
            }
            Check.due(one + " has at most twenty fields", fields <= 20, true);
            for (Method method : one.getDeclaredMethods()) {
                Check.due(method + " has at most seven parameters", method.getParameterCount() <= 7, true);
            }
        }
    }

    private static void source(String text) {
        String code = text.replaceAll("(?s)/\\*.*?\\*/", "").replaceAll("//[^\n]*", "");
        String[] never = {"->", "::", "\\btry\\b", "\\bcatch\\b", "\\bfinally\\b", "\\bsynchronized\\b", "\\bassert\\b", "@[A-Z]",
            "Exact\\(", "\\bstatic \\{", "\\bprotected\\b", "\\bSystem\\b", "\\bThread\\b", "\\bhashCode\\b", "\\btoString\\(\\) \\{",
            "\" \\+", "\\+ \"", "\\bpackage\\b", "\\bvar\\b", "\\bString\\[\\]", "\\binstanceof\\b"};
        for (String pattern : never) {
            Check.due("the program has " + pattern, Pattern.compile(pattern).matcher(code).find(), false);
        }
        Matcher imports = Pattern.compile("import ([^;]*);").matcher(code);
        while (imports.find()) {
            Check.due("import", imports.group(1), "java.util.ArrayList");
        }
        Matcher methods = Pattern.compile("(?m)^( {4}| {8})(?! )[^\n=;]*\\)[^\n=;]*\\{\n(?s:.*?)\n\\1\\}").matcher(code);
        int found = 0;
        while (methods.find()) {
            found++;
            Check.due("a method is short: " + methods.group().lines().findFirst().get(), methods.group().lines().count() <= 60, true);
        }
        Check.due("methods were found", found > 100, true);
    }

    /** A dear run takes a small part of the room: each field or element has at most eight bytes here. */
    private static void room() {
        com.sun.management.ThreadMXBean threads =
            (com.sun.management.ThreadMXBean) java.lang.management.ManagementFactory.getThreadMXBean();
        spend(4);
        long self = Thread.currentThread().getId();
        long before = threads.getThreadAllocatedBytes(self);
        spend(1);
        long used = threads.getThreadAllocatedBytes(self) - before;
        Check.due("a dear run allocates " + used + " bytes, which is below 1000000", used < 1000000, true);
    }

    private static void spend(int houses) {
        for (int number = 0; number < houses; number++) {
            SievePost house = new SievePost();
            int calls = 0;
            for (int rule = 0; rule < 8; rule++) {
                Check.rule(house, "@2{A=A+1;@z{B=B*2&A|!!!!!A;}}" + "a=1|1|1&1;".repeat(13));
                calls += 42;
            }
            for (int letter = 0; letter < 60; letter++) {
                house.arrive(0, 1, 0, 0);
                calls++;
            }
            Check.typeAll(house, "n;".repeat(80));
            for (calls += 40; calls < 512; calls += 2) {
                house.fault();
                house.costAnew(calls % 60);
            }
        }
    }
}
