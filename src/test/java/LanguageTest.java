import java.io.IOException;
import java.lang.reflect.Method;
import java.lang.reflect.Modifier;
import java.nio.charset.StandardCharsets;
import java.nio.file.Files;
import java.nio.file.Path;
import java.util.HashSet;
import java.util.List;
import java.util.Set;
import java.util.regex.Matcher;
import java.util.regex.Pattern;

/** Those rules of LANGUAGE.md that can be read off the file or the class. Runs in the project's folder. */
public final class LanguageTest {
    private static final Due DUE = new Due("LanguageTest");
    private static final Path FILE = Path.of("src", "main", "java", "RegisterFleet.java");
    private static final int LONGEST_METHOD = 60;
    private static final int DEEPEST = 8;

    private LanguageTest() {
    }

    public static void main(String[] args) throws IOException {
        String source = Files.readString(FILE, StandardCharsets.ISO_8859_1);
        String code = source.replaceAll("(?s)/\\*.*?\\*/", "").replaceAll("//[^\n]*", "");
        onlyTheLanguage(code);
        onlyTheLibrary(code);
        methodsAreShort(code);
        classesAreSmall();
        Source read = Source.of(FILE);
        onlyListedCalls(read);
        onlyListedTypes(read);
        callsStayFlat(read);
        DUE.end();
    }

    private static boolean has(String code, String pattern) {
        return Pattern.compile(pattern).matcher(code).find();
    }

    private static void onlyTheLanguage(String code) {
        String[] words = {
            "package", "throw", "throws", "try", "catch", "finally", "synchronized", "assert", "volatile", "native",
            "Object", "Random", "Thread", "Exception", "Error", "System\\.(?!arraycopy)", "\\w+Exact"};
        for (String word : words) {
            DUE.no("the word " + word, has(code, "\\b" + word + (word.endsWith(")") ? "" : "\\b")));
        }
        for (String sign : new String[] {"->", "::", "static\\s*\\{", "\\bvar\\b", "\\\"", "'"}) {
            DUE.no("the sign " + sign, has(code, sign));
        }
        DUE.no("a static field that is not final", has(code, "static (?!final )[\\w\\[\\]]+ \\w+( =|;)"));
    }

    private static void onlyTheLibrary(String code) {
        Matcher imports = Pattern.compile("import ([\\w.]+);").matcher(code);
        Set<String> allowed = Set.of("java.util.ArrayList", "java.util.Arrays", "java.util.List");
        while (imports.find()) {
            DUE.yes("import " + imports.group(1), allowed.contains(imports.group(1)));
        }
    }

    /** A method's first line and its closing brace stand equally far in. */
    private static void methodsAreShort(String code) {
        List<String> lines = code.lines().toList();
        for (int i = 0; i < lines.size(); i++) {
            String line = lines.get(i);
            String inset = line.substring(0, line.length() - line.stripLeading().length());
            if (line.matches("\\s+[\\w\\[\\]. ]+\\(.*\\) \\{") && !line.matches("\\s*(if|for|while|switch|}|else).*")) {
                int end = i;
                while (!lines.get(end).equals(inset + "}")) {
                    end++;
                }
                DUE.yes("short: " + line.strip(), end - i + 1 <= LONGEST_METHOD);
                DUE.yes("few parameters: " + line.strip(), line.split(",").length <= 7);
            }
        }
    }

    private static void classesAreSmall() {
        Set<String> open = new HashSet<>();
        for (Method each : RegisterFleet.class.getMethods()) {
            open.add(each.getName());
        }
        Class<?>[] inside = RegisterFleet.class.getDeclaredClasses();
        DUE.yes("classes: " + inside.length, inside.length < 12);
        for (Class<?> each : inside) {
            DUE.yes("static: " + each, Modifier.isStatic(each.getModifiers()));
            DUE.yes("private: " + each, Modifier.isPrivate(each.getModifiers()));
            DUE.yes("few fields: " + each, each.getDeclaredFields().length <= 20);
            for (Method method : each.getDeclaredMethods()) {
                DUE.no("a public one's name: " + method, open.contains(method.getName()));
            }
        }
        for (Method each : RegisterFleet.class.getDeclaredMethods()) {
            if (Modifier.isPrivate(each.getModifiers())) {
                DUE.no("a public one's name: " + each, open.contains(each.getName()));
            }
        }
    }

    /** Rule 4; remove(int) is told from remove(Object). */
    private static void onlyListedCalls(Source read) {
        Set<String> listed = Set.of(
            "java.util.ArrayList.new", "java.util.ArrayList.add(E)", "java.util.ArrayList.get(int)",
            "java.util.ArrayList.remove(int)", "java.util.ArrayList.size()", "java.util.ArrayList.isEmpty()",
            "java.util.ArrayList.clear()", "java.util.Arrays.fill(int[],int)", "java.lang.Integer.bitCount(int)",
            "java.lang.Math.min(int,int)",
            "java.lang.System.arraycopy(java.lang.Object,int,java.lang.Object,int,int)");
        DUE.no("no call of the library was seen", read.library.isEmpty());
        for (String each : read.library) {
            DUE.yes("call " + each, listed.contains(each));
        }
    }

    /** Rule 3. */
    private static void onlyListedTypes(Source read) {
        DUE.no("no type was seen", read.types.isEmpty());
        for (String each : read.types) {
            DUE.yes("type " + each, each.matches("(int|boolean)|int\\[\\](\\[\\])?"
                + "|RegisterFleet\\.\\w+(\\[\\])?|java\\.util\\.ArrayList<RegisterFleet\\.\\w+>"));
        }
    }

    /** Rules 8 and 11: nothing calls itself, and a call of the library may stand on top of each. */
    private static void callsStayFlat(Source read) {
        DUE.yes("methods that were seen", read.calls.size() > 19);
        for (String each : read.calls.keySet()) {
            DUE.yes("flat: " + each + " goes " + read.depth(each) + " deep", read.depth(each) < DEEPEST);
        }
    }
}
