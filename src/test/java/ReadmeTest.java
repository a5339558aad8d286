import java.io.IOException;
import java.lang.reflect.Method;
import java.lang.reflect.Modifier;
import java.nio.file.Files;
import java.nio.file.Path;
import java.util.ArrayList;
import java.util.HashSet;
import java.util.List;
import java.util.Map;
import java.util.Set;
import java.util.TreeMap;
import java.util.TreeSet;
import java.util.regex.Matcher;
import java.util.regex.Pattern;
import java.util.stream.Stream;

/** README.md is true of the class: the answers, constants and refusals that it shows, and the tests that it names. */
public final class ReadmeTest {
    private static final Path README = Path.of("README.md");
    private static final Path TESTS = Path.of("src/test/java");
    private static final Pattern EXAMPLE = Pattern.compile("desk\\.(\\w+)\\(([^)]*)\\); +// (-?\\w+)(: .*)?");
    private static final Pattern CONSTANT = Pattern.compile("\\| `([A-Z]+)` \\| (-?\\d+) \\|.*");
    private static final Pattern CALL = Pattern.compile("\\| `(\\w+)\\(([^)]*)\\)` \\|.*\\|([^|]*)\\|");
    private static final List<String> REFUSALS = List.of("UNKNOWN", "OUTSIDE", "NOT", "FULL");
    private static final int[] ODD = {Integer.MIN_VALUE, -1000, -21, -1, 0, 1, 5, 6, 21, 1000, FrameDesk.MISSING,
        Integer.MAX_VALUE};

    private static final Map<String, Method> face = new TreeMap<>();
    private static final List<String> faults = new ArrayList<>();
    private static int shown = 0;

    private static void readFace() {
        for (Method m : FrameDesk.class.getDeclaredMethods()) {
            if (Modifier.isPublic(m.getModifiers())) {
                face.put(m.getName(), m);
            }
        }
    }

    private static int constant(String name) throws ReflectiveOperationException {
        return FrameDesk.class.getField(name).getInt(null);
    }

    private static long number(String text) throws ReflectiveOperationException {
        return Character.isLetter(text.charAt(0)) ? constant(text) : Long.parseLong(text);
    }

    private static Object argument(String text) throws ReflectiveOperationException {
        if (text.equals("true") || text.equals("false")) {
            return Boolean.valueOf(text);
        }
        return (int) number(text.replace("FrameDesk.", ""));
    }

    private static Object[] arguments(String text) throws ReflectiveOperationException {
        String[] parts = text.isBlank() ? new String[0] : text.split(", ");
        Object[] all = new Object[parts.length];
        for (int i = 0; i < parts.length; i++) {
            all[i] = argument(parts[i]);
        }
        return all;
    }

    private static void answersAreTheClasses(List<String> lines) throws ReflectiveOperationException {
        FrameDesk desk = null;
        String section = "";
        Set<String> calls = new HashSet<>();
        for (String line : lines) {
            if (line.startsWith("## ")) {
                section = line.substring(3);
            } else if (line.equals("FrameDesk desk = new FrameDesk();")) {
                desk = new FrameDesk();
            } else if (line.startsWith("desk.")) {
                calls.add(judge(section, line, desk));
            }
        }
        for (String name : face.keySet()) {
            if (!calls.contains(name)) {
                faults.add("no answer of " + name + " is shown");
            }
        }
    }

    private static String judge(String section, String line, FrameDesk desk) throws ReflectiveOperationException {
        Matcher example = EXAMPLE.matcher(line);
        if (desk == null || !example.matches() || !face.containsKey(example.group(1))) {
            faults.add(section + ": no call with an answer: " + line);
            return "";
        }
        shown++;
        long got = ((Number) face.get(example.group(1)).invoke(desk, arguments(example.group(2)))).longValue();
        if (got != number(example.group(3))) {
            faults.add(section + ": " + line + " answered " + got);
        }
        return example.group(1);
    }

    private static void constantsAreTheClasses(List<String> lines) throws ReflectiveOperationException {
        Set<String> told = new TreeSet<>();
        for (String line : lines) {
            Matcher row = CONSTANT.matcher(line);
            if (row.matches()) {
                told.add(row.group(1));
                if (constant(row.group(1)) != Integer.parseInt(row.group(2))) {
                    faults.add(row.group(1) + " is " + constant(row.group(1)) + ", not " + row.group(2));
                }
            }
        }
        if (!told.equals(Set.of("NONE", "MISSING", "OPEN", "UNKNOWN", "OUTSIDE", "NOT", "FULL"))) {
            faults.add("constants told are " + told);
        }
    }

    private static void refusalsAreTheClasses(List<String> lines) throws ReflectiveOperationException {
        Set<String> told = new TreeSet<>();
        for (String line : lines) {
            Matcher row = CALL.matcher(line);
            if (row.matches() && face.containsKey(row.group(1))) {
                Method call = face.get(row.group(1));
                told.add(row.group(1));
                int parameters = row.group(2).isBlank() ? 0 : row.group(2).split(", ").length;
                if (parameters != call.getParameterCount()) {
                    faults.add(row.group(1) + " has " + call.getParameterCount() + " parameters");
                }
                Set<String> given = refusalsOf(call);
                if (!given.equals(words(row.group(3)))) {
                    faults.add(row.group(1) + " refuses with " + given + ", told are " + words(row.group(3)));
                }
            }
        }
        if (!told.equals(face.keySet())) {
            faults.add("calls told are " + told);
        }
    }

    private static Set<String> words(String text) {
        Set<String> found = new TreeSet<>();
        for (String word : REFUSALS) {
            if (text.contains("`" + word + "`")) {
                found.add(word);
            }
        }
        return found;
    }

    private static FrameDesk desk(boolean isFull) {
        FrameDesk desk = new FrameDesk();
        for (int i = 0; isFull && i < 20; i++) {
            desk.drift(2);
            desk.write(0, 0, 0);
        }
        return desk;
    }

    /** Every refusal that a call gives, on an empty and on a full desk, for odd arguments in every mixture. */
    private static Set<String> refusalsOf(Method call) throws ReflectiveOperationException {
        Set<String> found = new TreeSet<>();
        int mixtures = 1;
        for (int i = 0; i < call.getParameterCount(); i++) {
            mixtures *= ODD.length;
        }
        for (int mixture = 0; mixture < 2 * mixtures; mixture++) {
            long got = ((Number) call.invoke(desk(mixture >= mixtures), odd(call, mixture % mixtures))).longValue();
            for (String word : REFUSALS) {
                if (got == constant(word)) {
                    found.add(word);
                }
            }
        }
        return found;
    }

    private static Object[] odd(Method call, int mixture) {
        Object[] all = new Object[call.getParameterCount()];
        int left = mixture;
        for (int i = 0; i < all.length; i++) {
            boolean isFlag = call.getParameterTypes()[i] == boolean.class;
            all[i] = isFlag ? (Object) (left % 2 == 0) : (Object) ODD[left % ODD.length];
            left /= ODD.length;
        }
        return all;
    }

    private static void testsAreNamed(String text) throws IOException {
        try (Stream<Path> files = Files.list(TESTS)) {
            files.map(file -> file.getFileName().toString()).filter(name -> !text.contains("`" + name + "`"))
                .forEach(name -> faults.add(name + " is not named"));
        }
        Matcher named = Pattern.compile("`(\\w+\\.java)`").matcher(text);
        while (named.find()) {
            if (!Files.exists(TESTS.resolve(named.group(1)))) {
                faults.add(named.group(1) + " is named, but is not there");
            }
        }
        for (String word : List.of(".ci/run", "../shared/tests", "src/main/java/FrameDesk.java")) {
            if (!text.contains(word)) {
                faults.add(word + " is not named");
            }
        }
    }

    public static void main(String[] args) throws IOException, ReflectiveOperationException {
        List<String> lines = Files.readAllLines(README);
        readFace();
        answersAreTheClasses(lines);
        constantsAreTheClasses(lines);
        refusalsAreTheClasses(lines);
        testsAreNamed(String.join("\n", lines));
        for (String fault : faults) {
            System.out.println("README.md: " + fault);
        }
        System.out.println(shown + " answers shown in README.md, " + faults.size() + " faults");
        if (!faults.isEmpty()) {
            System.exit(1);
        }
    }
}
