import java.io.IOException;
import java.nio.file.Files;
import java.nio.file.Path;
import java.util.ArrayList;
import java.util.List;
import java.util.regex.Matcher;
import java.util.regex.Pattern;

/** What of LANGUAGE.md can be seen in the text of the program. */
public final class LanguageTest {
    private static final Path SOURCE = Path.of("src/main/java/FrameDesk.java");
    private static final String[] FORBIDDEN = {
        "package", "import", "throw", "throws", "try", "catch", "finally", "synchronized", "assert", "volatile", "native",
        "protected", "equals", "hashCode", "toString", "Exact", "System\\.(?!arraycopy)\\w+", "Thread", "->", "::",
        "double", "float", "Object", "static\\s*\\{", "Integer\\.M\\w+"};
    private static final String[] FACE = {"told", "row", "standing", "put", "take", "change", "frame", "ahead", "drift", "undo",
        "of", "rows", "inFrame", "heap", "shift", "best", "would", "write", "tear", "seed", "keep", "goBack"};
    private static final int LONGEST_METHOD = 60;

    private static final List<String> faults = new ArrayList<>();

    private static String withoutComments(String text) {
        return text.replaceAll("(?s)/\\*.*?\\*/", "").replaceAll("//[^\n]*", "");
    }

    private static void noForbiddenWords(String code) {
        for (String word : FORBIDDEN) {
            String pattern = Character.isLetter(word.charAt(0)) ? "\\b" + word + "\\b" : word;
            if (Pattern.compile(pattern).matcher(code).find()) {
                faults.add("found " + word);
            }
        }
    }

    private static void plainSigns(String text) {
        if (text.chars().anyMatch(sign -> sign > 126 || sign < 32 && sign != '\n')) {
            faults.add("a sign that is not plain");
        }
    }

    private static void publicMembersAreTheFace(String code) {
        Matcher member = Pattern.compile("\\bpublic\\b[^=;{(]*").matcher(code);
        int count = 0;
        while (member.find()) {
            count++;
        }
        if (count != FACE.length + 3) {
            faults.add(count + " public members, " + (FACE.length + 3) + " are due");
        }
    }

    private static void noOtherMethodHasAPublicName(String code) {
        for (String name : FACE) {
            Matcher method = Pattern.compile("(?m)^\\s+(?!return\\b)(?:[\\w\\[\\]]+ )+" + name + "\\([^;]*\\{").matcher(code);
            int count = 0;
            while (method.find()) {
                count++;
            }
            if (count != 1) {
                faults.add(count + " methods " + name);
            }
        }
    }

    private static void methodsAreShort(String code) {
        Matcher method = Pattern.compile("(?m)^( +)(?!return\\b)(?:[\\w\\[\\]]+ )+(\\w+)\\(([^;)]*)\\) \\{$").matcher(code);
        while (method.find()) {
            int end = code.indexOf("\n" + method.group(1) + "}", method.end());
            long lines = code.substring(method.start(), Math.max(end, method.start())).lines().count();
            if (end < 0 || lines > LONGEST_METHOD) {
                faults.add(method.group(2) + " has " + lines + " lines");
            }
            if (method.group(3).split(",").length > 7) {
                faults.add(method.group(2) + " has more than seven parameters");
            }
        }
    }

    private static void fewClassesAllStatic(String code) {
        Matcher inside = Pattern.compile("(?m)^ +.*\\b(class|record|enum|interface) \\w+.*\\{").matcher(code);
        int count = 1;
        while (inside.find()) {
            count++;
            if (!inside.group().contains("static")) {
                faults.add("not static: " + inside.group());
            }
        }
        if (count > 12) {
            faults.add(count + " classes");
        }
    }

    public static void main(String[] args) throws IOException {
        String text = Files.readString(SOURCE);
        String code = withoutComments(text);
        plainSigns(text);
        noForbiddenWords(code);
        publicMembersAreTheFace(code);
        noOtherMethodHasAPublicName(code);
        methodsAreShort(code);
        fewClassesAllStatic(code);
        for (String fault : faults) {
            System.out.println(fault);
        }
        System.out.println(faults.isEmpty() ? "the text keeps to the rules" : faults.size() + " faults");
        if (!faults.isEmpty()) {
            System.exit(1);
        }
    }
}
