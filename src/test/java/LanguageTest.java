import java.io.IOException;
import java.lang.reflect.Method;
import java.lang.reflect.Modifier;
import java.nio.charset.StandardCharsets;
import java.nio.file.Files;
import java.nio.file.Path;
import java.util.HashSet;
import java.util.List;
import java.util.Set;
import java.util.regex.Matcher;
import java.util.regex.Pattern;

/** Those rules of LANGUAGE.md that can be read off the file or the class. Runs in the project's folder. */
public final class LanguageTest {
    private static final Due DUE = new Due("LanguageTest");
    private static final Path FILE = Path.of("src", "main", "java", "RegisterFleet.java");
    private static final int LONGEST_METHOD = 60;

    private LanguageTest() {
    }

    public static void main(String[] args) throws IOException {
        String source = Files.readString(FILE, StandardCharsets.ISO_8859_1);
        String code = source.replaceAll("(?s)/\\*.*?\\*/", "").replaceAll("//[^\n]*", "");
        onlyTheLanguage(code);
        onlyTheLibrary(code);
        methodsAreShort(code);
        classesAreSmall();
        DUE.end();
    }

    private static boolean has(String code, String pattern) {
        return Pattern.compile(pattern).matcher(code).find();
    }

    private static void onlyTheLanguage(String code) {
        String[] words = {
            "package", "throw", "throws", "try", "catch", "finally", "synchronized", "assert", "volatile", "native",
            "Object", "Random", "Thread", "Exception", "Error", "System\\.(?!arraycopy)", "\\w+Exact"};
        for (String word : words) {
            DUE.no("the word " + word, has(code, "\\b" + word + (word.endsWith(")") ? "" : "\\b")));
        }
        for (String sign : new String[] {"->", "::", "static\\s*\\{", "\\bvar\\b", "\\\"", "'"}) {
            DUE.no("the sign " + sign, has(code, sign));
        }
        DUE.no("a static field that is not final", has(code, "static (?!final )[\\w\\[\\]]+ \\w+( =|;)"));
    }

    private static void onlyTheLibrary(String code) {
        Matcher imports = Pattern.compile("import ([\\w.]+);").matcher(code);
        Set<String> allowed = Set.of("java.util.ArrayList", "java.util.Arrays", "java.util.List");
        while (imports.find()) {
            DUE.yes("import " + imports.group(1), allowed.contains(imports.group(1)));
        }
        Matcher calls = Pattern.compile("\\b(Arrays|System|Math|Integer|Long)\\.(\\w+)").matcher(code);
        Set<String> listed = Set.of("fill", "copyOf", "copyOfRange", "arraycopy", "min", "max", "bitCount", "abs", "compare");
        while (calls.find()) {
            DUE.yes("call " + calls.group(), listed.contains(calls.group(2)));
        }
    }

    /** A method's first line and its closing brace stand equally far in. */
    private static void methodsAreShort(String code) {
        List<String> lines = code.lines().toList();
        for (int i = 0; i < lines.size(); i++) {
            String line = lines.get(i);
            String inset = line.substring(0, line.length() - line.stripLeading().length());
            if (line.matches("\\s+[\\w\\[\\]. ]+\\(.*\\) \\{") && !line.matches("\\s*(if|for|while|switch|}|else).*")) {
                int end = i;
                while (!lines.get(end).equals(inset + "}")) {
                    end++;
                }
                DUE.yes("short: " + line.strip(), end - i + 1 <= LONGEST_METHOD);
                DUE.yes("few parameters: " + line.strip(), line.split(",").length <= 7);
            }
        }
    }

    private static void classesAreSmall() {
        Set<String> open = new HashSet<>();
        for (Method each : RegisterFleet.class.getMethods()) {
            open.add(each.getName());
        }
        Class<?>[] inside = RegisterFleet.class.getDeclaredClasses();
        DUE.yes("classes: " + inside.length, inside.length < 12);
        for (Class<?> each : inside) {
            DUE.yes("static: " + each, Modifier.isStatic(each.getModifiers()));
            DUE.yes("private: " + each, Modifier.isPrivate(each.getModifiers()));
            DUE.yes("few fields: " + each, each.getDeclaredFields().length <= 20);
            for (Method method : each.getDeclaredMethods()) {
                DUE.no("a public one's name: " + method, open.contains(method.getName()));
            }
        }
        for (Method each : RegisterFleet.class.getDeclaredMethods()) {
            if (Modifier.isPrivate(each.getModifiers())) {
                DUE.no("a public one's name: " + each, open.contains(each.getName()));
            }
        }
    }
}
