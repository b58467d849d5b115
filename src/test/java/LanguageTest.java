import java.lang.reflect.Constructor;
import java.lang.reflect.Field;
import java.lang.reflect.Method;
import java.lang.reflect.Modifier;
import java.nio.charset.StandardCharsets;
import java.nio.file.Files;
import java.nio.file.Path;
import java.util.Arrays;
import java.util.Set;
import java.util.TreeSet;
import java.util.regex.Matcher;
import java.util.regex.Pattern;

// The class has the document's face and no other, and the rules of LANGUAGE.md that can be read off its text.
public final class LanguageTest {
    private static final Path SOURCE = Path.of("src/main/java/DoFinder.java");
    private static final int MOST_LINES = 60;
    private static final int MOST_CLASSES = 12;

    private static final String[] FACE = {"int NUMBER", "int FULL", "int NONE", "int KIND", "long BAD", "long UNKNOWN",
        "long NOTHING", "DoFinder()", "int step(int)", "int scrap()", "int add(int)", "int mend(int,int,int)",
        "int of(int,int)", "long run(int,int,int)", "int fuel(int,int,int)", "int limit(int)", "int ask(int)",
        "int show(int,int,int)", "int leave(int,int,boolean)", "int drop()", "int like(int,int)",
        "long would(int,int,int)", "int found(int)", "int open(int)", "int joint(int)", "int near(int)",
        "int misses(int)", "int parting(int)", "int many(int)", "int same(int,int)", "int differ(int,int)",
        "int first(int)"};

    private static int wrong = 0;

    private static void hold(boolean holds, String rule) {
        if (!holds) {
            wrong++;
            System.out.println("broken: " + rule);
        }
    }

    private static String types(Class<?>[] types) {
        return "(" + String.join(",", Arrays.stream(types).map(Class::getName).toList()) + ")";
    }

    private static void face() {
        Set<String> visible = new TreeSet<>();
        for (Field field : DoFinder.class.getDeclaredFields()) {
            if (!Modifier.isPrivate(field.getModifiers())) {
                visible.add(field.getType() + " " + field.getName());
                hold(field.getModifiers() == (Modifier.PUBLIC | Modifier.STATIC | Modifier.FINAL), field.getName());
            }
        }
        for (Constructor<?> constructor : DoFinder.class.getDeclaredConstructors()) {
            visible.add("DoFinder" + types(constructor.getParameterTypes()));
            hold(constructor.getModifiers() == Modifier.PUBLIC, "the constructor is public");
        }
        Set<String> open = new TreeSet<>();
        for (Method method : DoFinder.class.getDeclaredMethods()) {
            if (!Modifier.isPrivate(method.getModifiers())) {
                open.add(method.getName());
                visible.add(method.getReturnType() + " " + method.getName() + types(method.getParameterTypes()));
                hold(method.getModifiers() == Modifier.PUBLIC, method.getName() + " is public alone");
            }
        }
        hold(visible.equals(new TreeSet<>(Arrays.asList(FACE))), "the face: " + visible);
        hold(DoFinder.class.getModifiers() == (Modifier.PUBLIC | Modifier.FINAL), "the class is public and final");
        names(DoFinder.class, open);
    }

    private static void names(Class<?> outer, Set<String> open) {
        hold(outer.getDeclaredClasses().length + 1 <= MOST_CLASSES, "some twelve classes");
        for (Class<?> inner : outer.getDeclaredClasses()) {
            hold(Modifier.isStatic(inner.getModifiers()), inner + " is static");
            hold(!Modifier.isPublic(inner.getModifiers()), inner + " isn't public");
            for (Method method : inner.getDeclaredMethods()) {
                hold(!open.contains(method.getName()), "no name of a public method: " + method);
                hold(method.getParameterCount() <= 7, "seven parameters: " + method);
            }
            int fields = 0;
            for (Field field : inner.getDeclaredFields()) {
                fields += Modifier.isStatic(field.getModifiers()) ? 0 : 1;
                hold(!Modifier.isStatic(field.getModifiers()) || Modifier.isFinal(field.getModifiers()), "static: " + field);
            }
            hold(fields <= 20, "some twenty fields: " + inner);
        }
    }

    private static void words(String text) {
        String[] ruledOut = {"throw", "throws", "try", "catch", "finally", "synchronized", "assert", "import", "package",
            "float", "double", "Exact", "equals", "hashCode", "toString", "Object", "Random", "Thread", "Override",
            "instanceof", "null"};
        String code = text.replaceAll("(?s)/\\*.*?\\*/", "").replaceAll("//[^\n]*", "");
        for (String word : ruledOut) {
            hold(!Pattern.compile("\\b\\w*" + word + "\\b").matcher(code).find(), "the word " + word);
        }
        hold(!code.contains("->") && !code.contains("::"), "no lambda and no method reference");
        hold(text.chars().allMatch(sign -> sign < 128), "signs up to 127");
        for (Matcher made = Pattern.compile("\n( *)[^\n]*\\bnew \\w+").matcher(code); made.find();) {
            hold(inConstructorOrField(code, made.start()), "made in constructors alone:" + made.group());
        }
    }

    /** Whether the nearest heading above a place is no method's. */
    private static boolean inConstructorOrField(String code, int place) {
        String line = code.substring(place + 1).split("\n", 2)[0];
        if (line.matches(" *(private )?final \\S+ \\w+ = new .*")) {
            return true;
        }
        Matcher headings = Pattern.compile("\n {4,8}((public |private |static |final )*(\\S+ )?\\w+)\\([^\n;]*\\) \\{").matcher(code);
        String last = "";
        while (headings.find() && headings.start() < place) {
            last = headings.group(1).replaceAll("\\b(public|private|static|final) ", "");
        }
        return !last.isEmpty() && !last.contains(" ");
    }

    private static void lengths(String text) {
        String[] lines = text.split("\n");
        int start = -1;
        for (int i = 0; i < lines.length; i++) {
            hold(lines[i].length() <= 120, "line " + (i + 1) + " is long");
            if (lines[i].matches(" {4,8}[^ /].*\\) \\{") && !lines[i].matches(" *(if|for|while|switch|\\}).*")) {
                start = i;
            }
            if (start >= 0 && lines[i].matches(" {4,8}\\}")) {
                hold(i - start < MOST_LINES, "the method at line " + (start + 1) + " is long");
                start = lines[i].startsWith("        }") || lines[i].startsWith("    }") ? -1 : start;
            }
        }
    }

    public static void main(String[] args) throws Exception {
        String text = Files.readString(SOURCE, StandardCharsets.UTF_8);
        face();
        words(text);
        lengths(text);
        System.out.println(wrong == 0 ? "the language is kept to" : wrong + " rules are broken");
        if (wrong != 0) {
            System.exit(1);
        }
    }
}
