import java.io.IOException;
import java.lang.reflect.Field;
import java.lang.reflect.Modifier;
import java.nio.file.Files;
import java.nio.file.Path;
import java.util.ArrayList;
import java.util.List;
import java.util.Map;
import java.util.Set;
import java.util.TreeMap;
import java.util.TreeSet;
import java.util.regex.Matcher;
import java.util.regex.Pattern;

/** What of LANGUAGE.md can be seen in the text of the program and in the compiled class. */
public final class LanguageTest {
    private static final Path SOURCE = Path.of("src/main/java/FrameDesk.java");
    private static final String[] FORBIDDEN = {
        "package", "import", "throw", "throws", "try", "catch", "finally", "synchronized", "assert", "volatile", "native",
        "protected", "equals", "hashCode", "toString", "Exact", "System\\.(?!arraycopy)\\w+", "Thread", "->", "::",
        "double", "float", "Object", "static\\s*\\{", "Integer\\.M\\w+"};
    private static final String[] FACE = {"told", "row", "standing", "put", "take", "change", "frame", "ahead", "drift", "undo",
        "of", "rows", "inFrame", "heap", "shift", "best", "would", "write", "tear", "seed", "keep", "goBack"};
    private static final int LONGEST_METHOD = 60;
    private static final int MOST_FIELDS = 20;
    private static final int DEEPEST_CALL = 8;
    private static final Pattern METHOD = Pattern.compile("(?m)^( +)(?!return\\b)(?:[\\w\\[\\]]+ )*(\\w+)\\(([^;)]*)\\) \\{$");

    private static final List<String> faults = new ArrayList<>();

    private static String withoutComments(String text) {
        return text.replaceAll("(?s)/\\*.*?\\*/", "").replaceAll("//[^\n]*", "");
    }

    private static void noForbiddenWords(String code) {
        for (String word : FORBIDDEN) {
            String pattern = Character.isLetter(word.charAt(0)) ? "\\b" + word + "\\b" : word;
            if (Pattern.compile(pattern).matcher(code).find()) {
                faults.add("found " + word);
            }
        }
    }

    private static void plainSigns(String text) {
        if (text.chars().anyMatch(sign -> sign > 126 || sign < 32 && sign != '\n')) {
            faults.add("a sign that is not plain");
        }
    }

    private static void publicMembersAreTheFace(String code) {
        Matcher member = Pattern.compile("\\bpublic\\b[^=;{(]*").matcher(code);
        int count = 0;
        while (member.find()) {
            count++;
        }
        if (count != FACE.length + 3) {
            faults.add(count + " public members, " + (FACE.length + 3) + " are due");
        }
    }

    private static void noOtherMethodHasAPublicName(String code) {
        for (String name : FACE) {
            Matcher method = Pattern.compile("(?m)^\\s+(?!return\\b)(?:[\\w\\[\\]]+ )+" + name + "\\([^;]*\\{").matcher(code);
            int count = 0;
            while (method.find()) {
                count++;
            }
            if (count != 1) {
                faults.add(count + " methods " + name);
            }
        }
    }

    private static void methodsAreShort(String code) {
        Matcher method = METHOD.matcher(code);
        while (method.find()) {
            int end = code.indexOf("\n" + method.group(1) + "}", method.end());
            long lines = code.substring(method.start(), Math.max(end, method.start())).lines().count();
            if (end < 0 || lines > LONGEST_METHOD) {
                faults.add(method.group(2) + " has " + lines + " lines");
            }
            if (method.group(3).split(",").length > 7) {
                faults.add(method.group(2) + " has more than seven parameters");
            }
        }
    }

    private static void fewClassesAllStatic(String code) {
        Matcher inside = Pattern.compile("(?m)^ +.*\\b(class|record|enum|interface) \\w+.*\\{").matcher(code);
        int count = 1;
        while (inside.find()) {
            count++;
            if (!inside.group().contains("static")) {
                faults.add("not static: " + inside.group());
            }
        }
        if (count > 12) {
            faults.add(count + " classes");
        }
    }

    /** Names stand for methods, over all classes: a path of names is at least as long as any path of calls. */
    private static Map<String, Set<String>> callsByMethod(String code) {
        Map<String, String> bodies = new TreeMap<>();
        Matcher method = METHOD.matcher(code);
        while (method.find()) {
            int end = code.indexOf("\n" + method.group(1) + "}", method.end());
            bodies.merge(method.group(2), code.substring(method.end(), Math.max(end, method.end())), String::concat);
        }
        Map<String, Set<String>> calls = new TreeMap<>();
        for (Map.Entry<String, String> body : bodies.entrySet()) {
            Set<String> called = new TreeSet<>();
            Matcher call = Pattern.compile("\\b(\\w+)\\(").matcher(body.getValue());
            while (call.find()) {
                if (bodies.containsKey(call.group(1))) {
                    called.add(call.group(1));
                }
            }
            calls.put(body.getKey(), called);
        }
        return calls;
    }

    private static int depth(String method, Map<String, Set<String>> calls, int open) {
        if (open > DEEPEST_CALL) {
            return 1;
        }
        int deepest = 0;
        for (String called : calls.get(method)) {
            deepest = Math.max(deepest, depth(called, calls, open + 1));
        }
        return 1 + deepest;
    }

    /** A method that calls itself, over others too, is found as well: its path has no end. */
    private static void callsAreNotDeep(String code) {
        Map<String, Set<String>> calls = callsByMethod(code);
        for (String name : FACE) {
            if (!calls.containsKey(name) || depth(name, calls, 1) > DEEPEST_CALL) {
                faults.add("calls from " + name + " are not found, or go too deep");
            }
        }
    }

    private static void fieldsAreFewAndStaticOnesConstant() {
        List<Class<?>> classes = new ArrayList<>(List.of(FrameDesk.class.getDeclaredClasses()));
        classes.add(FrameDesk.class);
        for (Class<?> each : classes) {
            int count = 0;
            for (Field field : each.getDeclaredFields()) {
                if (!Modifier.isStatic(field.getModifiers())) {
                    count++;
                } else if (!Modifier.isFinal(field.getModifiers()) || field.getType() != int.class) {
                    faults.add("static, but no constant: " + field.getName());
                }
            }
            if (count > MOST_FIELDS) {
                faults.add(each.getName() + " has " + count + " fields");
            }
        }
    }

    public static void main(String[] args) throws IOException {
        String text = Files.readString(SOURCE);
        String code = withoutComments(text);
        plainSigns(text);
        noForbiddenWords(code);
        publicMembersAreTheFace(code);
        noOtherMethodHasAPublicName(code);
        methodsAreShort(code);
        fewClassesAllStatic(code);
        callsAreNotDeep(code);
        fieldsAreFewAndStaticOnesConstant();
        for (String fault : faults) {
            System.out.println(fault);
        }
        System.out.println(faults.isEmpty() ? "the text keeps to the rules" : faults.size() + " faults");
        if (!faults.isEmpty()) {
            System.exit(1);
        }
    }
}
