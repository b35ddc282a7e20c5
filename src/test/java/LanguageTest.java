import java.io.IOException;
import java.lang.reflect.Constructor;
import java.lang.reflect.Field;
import java.lang.reflect.Member;
import java.lang.reflect.Method;
import java.lang.reflect.Modifier;
import java.nio.file.Files;
import java.nio.file.Path;
import java.util.ArrayList;
import java.util.Arrays;
import java.util.List;
import java.util.TreeSet;
import java.util.regex.Matcher;
import java.util.regex.Pattern;

/** The face of the class, and those of the language's rules that can be read off its text or its shape. */
public final class LanguageTest {
    private static final Check CHECK = new Check();
    private static final String SOURCE = "src/main/java/TandemRide.java";
    private static final int MOST_LINES = 60;
    private static final String[] FACE = {
        "int rider(int,int,int,int,int)", "int leave(int)", "int seat(int,int)", "int set(int,int)", "int say(int)",
        "int wipe()", "int fault(int)", "int way()", "int tread(int,int,int)", "int judge(int)",
        "int ridden(int,int)", "long share(int)", "int unseen()", "int soonest(int)", "int oneBeat(int,int,int)",
        "int single(int,int)", "int sorts(int)", "int uneven(int,int,int)", "int evenest(int,int)",
        "int calls(int,int)", "int worth()", "int bestPair(int)", "int quarrel(int)", "long home(int,int,int)",
        "long mean(int,int)", "int time(int,int,int,int)", "int forget()", "int strong(int,int)",
        "int year(int,int,int)", "int image(int)", "int restore(int)", "int told(int)"};
    private static final String[] FORBIDDEN_WORDS = {"throw", "throws", "try", "catch", "finally", "synchronized",
        "assert", "import", "package", "native", "volatile", "protected", "System.out", "Random", "Thread"};

    public static void main(String[] args) throws IOException {
        constants();
        face();
        shape();
        text();
        CHECK.end("LanguageTest");
    }

    private static void constants() {
        CHECK.promise("constants");
        int[] got = {TandemRide.UNKNOWN, TandemRide.OUTSIDE, TandemRide.STATE, TandemRide.FULL, TandemRide.NO,
            TandemRide.NONE};
        for (int i = 0; i < got.length; i++) CHECK.due("constant " + i, got[i], -1 - i);
        CHECK.due("GONE", TandemRide.GONE, -1000000000000000000L);
    }

    private static void face() {
        CHECK.promise("the face");
        TreeSet<String> got = new TreeSet<>();
        for (Method m : TandemRide.class.getDeclaredMethods()) {
            if (Modifier.isPrivate(m.getModifiers()) || m.isSynthetic()) continue;
            List<String> types = new ArrayList<>();
            for (Class<?> type : m.getParameterTypes()) types.add(type.getName());
            got.add(m.getReturnType().getName() + " " + m.getName() + "(" + String.join(",", types) + ")");
            CHECK.due(m.getName() + " is public", Modifier.isPublic(m.getModifiers()));
        }
        CHECK.due("methods are " + got, got.equals(new TreeSet<>(Arrays.asList(FACE))));
        Constructor<?>[] constructors = TandemRide.class.getDeclaredConstructors();
        CHECK.due("constructors", constructors.length, 1);
        CHECK.due("the constructor is public", Modifier.isPublic(constructors[0].getModifiers()));
        CHECK.due("the class is public and final", TandemRide.class.getModifiers(), Modifier.PUBLIC | Modifier.FINAL);
        TreeSet<String> fields = new TreeSet<>();
        for (Field f : TandemRide.class.getDeclaredFields()) {
            if (!Modifier.isPrivate(f.getModifiers())) fields.add(f.getName());
        }
        CHECK.due("constants are " + fields, fields.equals(new TreeSet<>(
            Arrays.asList("UNKNOWN", "OUTSIDE", "STATE", "FULL", "NO", "NONE", "GONE"))));
    }

    private static void shape() {
        CHECK.promise("the shape");
        List<Class<?>> classes = new ArrayList<>(Arrays.asList(TandemRide.class.getDeclaredClasses()));
        for (Class<?> inner : classes) {
            CHECK.due(inner + " is static", Modifier.isStatic(inner.getModifiers()));
            CHECK.due(inner + " is not public", !Modifier.isPublic(inner.getModifiers()));
            CHECK.due(inner + " holds no class", inner.getDeclaredClasses().length, 0);
        }
        classes.add(TandemRide.class);
        CHECK.due("few classes", classes.size() <= 12);
        TreeSet<String> publicNames = new TreeSet<>();
        for (String call : FACE) publicNames.add(call.substring(call.indexOf(' ') + 1, call.indexOf('(')));
        for (Class<?> type : classes) {
            int held = 0;
            for (Field f : type.getDeclaredFields()) {
                if (isStatic(f)) CHECK.due(f + " is final", Modifier.isFinal(f.getModifiers()));
                else held++;
            }
            CHECK.due(type + " has few fields", held <= 20);
            for (Method m : type.getDeclaredMethods()) {
                CHECK.due(m + " has few parameters", m.getParameterCount() <= 7);
                boolean ofTheFace = type == TandemRide.class && Modifier.isPublic(m.getModifiers());
                CHECK.due(m + " has a name of its own", ofTheFace || !publicNames.contains(m.getName()));
            }
        }
    }

    private static boolean isStatic(Member member) {
        return Modifier.isStatic(member.getModifiers());
    }

    private static void text() throws IOException {
        CHECK.promise("the text");
        String text = Files.readString(Path.of(SOURCE));
        String code = text.replaceAll("(?s)/\\*.*?\\*/", "").replaceAll("//[^\n]*", "");
        for (String word : FORBIDDEN_WORDS) {
            CHECK.due("no " + word, !Pattern.compile("\\b" + Pattern.quote(word) + "\\b").matcher(code).find());
        }
        CHECK.due("no lambda, no method reference", !code.contains("->") && !code.contains("::"));
        CHECK.due("all signs are 1 to 127", code.chars().allMatch(sign -> sign > 0 && sign < 128));
        Matcher library = Pattern.compile("\\b(System|Math|Integer|Long|Arrays)\\.(\\w+)").matcher(code);
        while (library.find()) {
            CHECK.due(library.group() + " is allowed", isAllowed(library.group(1), library.group(2)));
        }
        methods(code);
        constructors(code);
    }

    private static void methods(String code) {
        Matcher method = Pattern.compile("(?ms)^( +)([^\\n;=]*\\)) \\{$(.*?)^\\1\\}$").matcher(code);
        int methods = 0;
        while (method.find()) {
            CHECK.due(method.group(2).trim() + " is short", method.group(3).lines().count() <= MOST_LINES);
            methods++;
        }
        CHECK.due("methods that were read: " + methods, methods > FACE.length);
    }

    /** What a constructor makes is given nothing of the object that it makes. */
    private static void constructors(String code) {
        Matcher constructor =
            Pattern.compile("(?ms)^( +)(?:public )?([A-Z]\\w*)\\([^)]*\\) \\{$(.*?)^\\1\\}$").matcher(code);
        int constructors = 0;
        while (constructor.find()) {
            TreeSet<String> own = fieldsOf(constructor.group(2));
            own.add("this");
            Matcher made = Pattern.compile("\\bnew \\w+\\(([^)]*)\\)").matcher(constructor.group(3));
            while (made.find()) {
                for (String word : made.group(1).split("\\W+")) {
                    CHECK.due(constructor.group(2) + " keeps " + word, !own.contains(word));
                }
            }
            constructors++;
        }
        CHECK.due("constructors that were read: " + constructors, constructors > 0);
    }

    private static TreeSet<String> fieldsOf(String className) {
        List<Class<?>> classes = new ArrayList<>(Arrays.asList(TandemRide.class.getDeclaredClasses()));
        classes.add(TandemRide.class);
        TreeSet<String> names = new TreeSet<>();
        for (Class<?> type : classes) {
            if (!type.getSimpleName().equals(className)) continue;
            for (Field f : type.getDeclaredFields()) {
                if (!isStatic(f)) names.add(f.getName());
            }
        }
        return names;
    }

    private static boolean isAllowed(String type, String function) {
        if (type.equals("System")) return function.equals("arraycopy");
        if (type.equals("Arrays")) return function.equals("fill") || function.startsWith("copyOf");
        return !function.endsWith("Exact");
    }
}
