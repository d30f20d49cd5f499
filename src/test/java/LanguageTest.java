import java.io.IOException;
import java.lang.reflect.Field;
import java.lang.reflect.Method;
import java.lang.reflect.Modifier;
import java.nio.file.Files;
import java.nio.file.Path;
import java.util.ArrayList;
import java.util.HashMap;
import java.util.HashSet;
import java.util.List;
import java.util.Map;
import java.util.Set;
import java.util.regex.Matcher;
import java.util.regex.Pattern;
import java.util.stream.Stream;

/** The rules of LANGUAGE.md that can be seen in the text of PatchDesk.java and in the class; rule 1 is FaceTest's. */
public final class LanguageTest {
    private static final Path FOLDER = Path.of("src/main/java");
    private static final Set<String> IMPORTS = Set.of("java.util.ArrayList", "java.util.List", "java.util.Arrays",
            "java.util.Iterator", "java.util.NoSuchElementException");
    private static final String[] RULED_OUT = {"->", "::", "\\bfinally\\b", "\\bsynchronized\\b", "\\bassert\\b",
        "\\bgetMessage\\b", "\\bhashCode\\b", "\\bextends \\w*(Exception|Error|Throwable)\\b", "\\w+Exact\\b",
        "\\bSystem\\.(?!arraycopy)", "\\bThread\\b", "\\bRandom\\b", "\\brandom\\b", "\\bstatic \\{", "\\bObject\\b",
        "\\bMap\\b", "\\bSet\\b", "\\bvar\\b", "\\bsuper\\b", "\\bjava\\.(?!util\\.)", "\\[\\]\\[\\]", "\\bString\\.",
        "\\bprotected\\b", "\\bnative\\b", "\\btransient\\b", "\\bvolatile\\b", "\\bwhile \\(true\\)"};
    private static final Pattern THROW = Pattern.compile("throw new (IllegalStateException|IllegalArgumentException"
            + "|IndexOutOfBoundsException|ArithmeticException|UnsupportedOperationException|NoSuchElementException"
            + "|RuntimeException)\\((\"[^\"]*\")?\\);");
    private static final Pattern COUNTED = Pattern.compile(
            "for \\(int (\\w+) = [01]; \\1 (<|<=) [^;]+; \\1\\+\\+\\) \\{");
    private static final Pattern MEMBER = Pattern.compile("( {4}| {8})(?:[\\w<>\\[\\]]+ )*(\\w+)\\(([^;]*)");
    private static final Pattern CALLED = Pattern.compile("(\\w+)\\(");

    private static final Check CHECK = new Check();

    private final String raw;
    /** Without comments and the text of strings, so that words in them are no code. */
    private final String code;
    private final Map<String, String> methods = new HashMap<>();

    private LanguageTest(String raw) {
        this.raw = raw;
        code = raw.replaceAll("(?s)/\\*.*?\\*/", "").replaceAll("//.*", "").replaceAll("\"[^\"\n]*\"", "TEXT");
    }

    public static void main(String[] args) throws IOException {
        try (Stream<Path> files = Files.walk(FOLDER)) {
            CHECK.is("one file", files.filter(Files::isRegularFile).count(), 1);
        }
        LanguageTest test = new LanguageTest(Files.readString(FOLDER.resolve("PatchDesk.java")));
        test.header();
        test.words();
        test.exceptions();
        test.loops();
        test.methodsAreShort();
        test.callsAreFlat();
        classes();
        CHECK.end("LanguageTest");
    }

    private void header() {
        CHECK.holds("no package line", !Pattern.compile("\\bpackage\\b").matcher(code).find());
        Matcher imported = Pattern.compile("import ([^;]*);").matcher(code);
        while (imported.find()) {
            CHECK.holds("rule 4: import of " + imported.group(1), IMPORTS.contains(imported.group(1)));
        }
        CHECK.holds("rule 3: characters 0 to 255", raw.chars().allMatch(c -> c <= 255));
    }

    private void words() {
        for (String word : RULED_OUT) {
            Matcher found = Pattern.compile(word).matcher(code);
            CHECK.holds("ruled out: " + word, !found.find());
        }
        CHECK.holds("rule 10: no text is joined by +", !Pattern.compile("TEXT \\+|\\+ TEXT").matcher(code).find());
    }

    private void exceptions() {
        CHECK.is("rule 6: every throw is of the form that it names", count(THROW, raw),
                count(Pattern.compile("\\bthrow\\b"), code));
    }

    private void loops() {
        long all = count(Pattern.compile("\\b(for|while|do)\\b"), code);
        CHECK.is("rule 9: every loop counts to a bound", count(COUNTED, code), all);
    }

    private static long count(Pattern pattern, String text) {
        return pattern.matcher(text).results().count();
    }

    /** A member begins with a line of its own and ends with the first brace that stands as far in as it does. */
    private void methodsAreShort() {
        String[] lines = code.split("\n");
        for (int i = 0; i < lines.length; i++) {
            Matcher member = MEMBER.matcher(lines[i]);
            if (!member.matches()) {
                continue;
            }
            int end = i;
            StringBuilder body = new StringBuilder();
            while (!lines[end].equals(member.group(1) + "}")) {
                end++;
                body.append(lines[end]).append('\n');
            }
            String name = member.group(2);
            CHECK.holds("rule 11: " + name + " is short", end - i < 60);
            CHECK.holds("no two members are called " + name, methods.put(name, body.toString()) == null);
            i = end;
        }
        CHECK.holds("the members were found", methods.keySet().containsAll(Set.of("PatchDesk", "apply", "Task", "top")));
        CHECK.is("rule 6: no throw in a constructor", methods.entrySet().stream()
                .filter(member -> Character.isUpperCase(member.getKey().charAt(0)))
                .filter(member -> member.getValue().contains("throw ")).count(), 0);
    }

    private void callsAreFlat() {
        for (String name : methods.keySet()) {
            CHECK.holds("rules 8 and 11: " + name + " goes at most eight deep", depth(name, new HashSet<>()) <= 8);
        }
    }

    /** How many members stand open at most when this one is called; more than any limit when it calls itself. */
    private int depth(String name, Set<String> open) {
        if (!open.add(name)) {
            return 1000;
        }
        int deepest = 0;
        Matcher called = CALLED.matcher(methods.get(name));
        while (called.find()) {
            if (methods.containsKey(called.group(1))) {
                deepest = Math.max(deepest, depth(called.group(1), open));
            }
        }
        open.remove(name);
        return deepest + 1;
    }

    private static void classes() {
        List<Class<?>> all = new ArrayList<>(List.of(PatchDesk.class.getDeclaredClasses()));
        all.add(PatchDesk.class);
        CHECK.holds("rule 11: at most twelve classes", all.size() <= 12);
        for (Class<?> one : all) {
            fields(one, all);
            for (Method method : one.getDeclaredMethods()) {
                CHECK.holds("rule 11: parameters of " + method, method.getParameterCount() <= 7);
            }
        }
    }

    private static void fields(Class<?> one, List<Class<?>> own) {
        int ofTheObject = 0;
        for (Field field : one.getDeclaredFields()) {
            Class<?> type = field.getType();
            if (Modifier.isStatic(field.getModifiers())) {
                CHECK.holds("rule 5: " + field, Modifier.isFinal(field.getModifiers()) && type == int.class);
                continue;
            }
            ofTheObject++;
            Class<?> part = type.isArray() ? type.getComponentType() : type;
            CHECK.holds("rule 3: " + field, part.isPrimitive() || own.contains(part)
                    || (type == ArrayList.class && field.getGenericType().getTypeName().contains("PatchDesk$")));
        }
        CHECK.holds("rule 11: fields of " + one, ofTheObject <= 20);
    }
}
