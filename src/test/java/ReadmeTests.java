import java.io.File;
import java.io.IOException;
import java.lang.reflect.InvocationTargetException;
import java.lang.reflect.Method;
import java.lang.reflect.Modifier;
import java.nio.file.Files;
import java.nio.file.Path;
import java.util.ArrayList;
import java.util.List;
import java.util.Set;
import java.util.TreeSet;
import java.util.regex.Matcher;
import java.util.regex.Pattern;

/** What README.md says is true: its calls answer as it says, use the whole face, and its list has every test. */
public final class ReadmeTests {
    private static final String FIRST_LINE = "MatchMill mill = new MatchMill();";
    private static final Pattern CALL = Pattern.compile("mill\\.(\\w+)\\(([^)]*)\\);\\s*(?:// (.*))?");
    private static final Pattern ANSWER = Pattern.compile("= (-?\\d+)(?::.*)?");
    private static final Pattern REFUSAL = Pattern.compile("throws (\\w+)");
    // Of what a call without an answer gives back.
    private static final String NOTHING = "nothing";

    private static int wrong = 0;

    public static void main(String[] args) throws IOException, ReflectiveOperationException {
        // .ci/run goes to the folder of README.md first.
        List<String> lines = Files.readAllLines(Path.of("README.md"));
        callsAnswerAsSaid(example(lines));
        testsAreListed(lines);
        System.out.println(wrong == 0 ? "all answers are as due" : wrong + " answers are not as due");
        if (wrong != 0) {
            System.exit(1);
        }
    }

    private static void complain(String what) {
        wrong++;
        System.out.println("README.md: " + what);
    }

    /** The lines of the Java that stands in it. */
    private static List<String> example(List<String> lines) {
        List<String> inside = new ArrayList<>();
        boolean within = false;
        for (String line : lines) {
            if (line.startsWith("```")) {
                within = line.equals("```java");
            } else if (within && !line.isBlank() && !line.startsWith("//")) {
                inside.add(line);
            }
        }
        return inside;
    }

    private static void callsAnswerAsSaid(List<String> lines) throws ReflectiveOperationException {
        Set<String> unused = new TreeSet<>();
        for (Method method : MatchMill.class.getDeclaredMethods()) {
            if (Modifier.isPublic(method.getModifiers())) {
                unused.add(method.getName());
            }
        }
        if (lines.isEmpty() || !lines.get(0).equals(FIRST_LINE)) {
            complain("the example does not begin with " + FIRST_LINE);
            return;
        }
        MatchMill mill = new MatchMill();
        for (String line : lines.subList(1, lines.size())) {
            Matcher call = CALL.matcher(line);
            if (call.matches()) {
                unused.remove(call.group(1));
                answersAsSaid(mill, call, line);
            } else {
                complain("this is no call: " + line);
            }
        }
        if (!unused.isEmpty()) {
            complain("the example does not show " + unused);
        }
    }

    private static void answersAsSaid(MatchMill mill, Matcher call, String line) throws ReflectiveOperationException {
        String said = call.group(3) == null ? "" : call.group(3);
        Matcher answer = ANSWER.matcher(said);
        Matcher refusal = REFUSAL.matcher(said);
        String due = answer.matches() ? answer.group(1) : refusal.matches() ? refusal.group(1) : NOTHING;
        String got = outcome(mill, call.group(1), call.group(2));
        if (!got.equals(due)) {
            complain("it says " + due + ", the program " + got + ": " + line);
        }
    }

    private static String outcome(MatchMill mill, String name, String written) throws ReflectiveOperationException {
        String[] words = written.isEmpty() ? new String[0] : written.split(", ");
        Object[] arguments = new Object[words.length];
        Class<?>[] types = new Class<?>[words.length];
        for (int i = 0; i < words.length; i++) {
            boolean truth = words[i].equals("true") || words[i].equals("false");
            types[i] = truth ? boolean.class : int.class;
            arguments[i] = truth ? (Object) Boolean.valueOf(words[i]) : (Object) Integer.valueOf(words[i]);
        }
        try {
            Object answer = MatchMill.class.getMethod(name, types).invoke(mill, arguments);
            return answer == null ? NOTHING : answer.toString();
        } catch (InvocationTargetException e) {
            return e.getCause().getClass().getSimpleName();
        }
    }

    private static void testsAreListed(List<String> lines) {
        String text = String.join("\n", lines);
        File[] files = new File("src/test/java").listFiles();
        if (files == null || files.length == 0) {
            complain("there are no tests");
            return;
        }
        for (File file : files) {
            String name = file.getName().replace(".java", "");
            if (!text.contains("`" + name + "`")) {
                complain("it does not name " + name);
            }
        }
        Matcher named = Pattern.compile("`(\\w+Tests)`").matcher(text);
        while (named.find()) {
            if (!new File("src/test/java", named.group(1) + ".java").isFile()) {
                complain("there is no " + named.group(1));
            }
        }
    }
}
