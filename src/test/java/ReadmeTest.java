import java.io.IOException;
import java.lang.reflect.Method;
import java.lang.reflect.Modifier;
import java.nio.file.Files;
import java.nio.file.Path;
import java.util.Set;
import java.util.TreeSet;
import java.util.regex.Matcher;
import java.util.regex.Pattern;

/** The calls that README.md shows answer what it says there, and it shows every call. It runs where README.md is. */
public final class ReadmeTest extends SentenceChecks {
    private static final Pattern SHOWN = Pattern.compile("round\\.(\\w+)\\((.*)\\); +// (-?\\w+)(:.*)?");

    public static void main(String[] args) throws IOException {
        says("README.md says how to use the class");
        Set<String> shown = new TreeSet<>();
        BellowsRound x = new BellowsRound();
        for (String line : Files.readAllLines(Path.of("README.md"))) {
            Matcher matcher = SHOWN.matcher(line);
            if (matcher.matches()) {
                shown.add(matcher.group(1));
                due(x, matcher.group(1) + arguments(matcher.group(2)), answer(matcher.group(3)));
            } else if (line.startsWith("round.")) {
                tellWrong("a call without its answer: " + line);
            }
        }
        Set<String> calls = calls();
        if (!shown.equals(calls)) {
            tellWrong("the calls shown are " + shown + ", due are " + calls);
        }
        endWithCode();
    }

    /** A blank and a number for each argument, a character being told by its number. */
    private static String arguments(String list) {
        StringBuilder words = new StringBuilder();
        if (!list.isEmpty()) {
            for (String argument : list.split(", ")) {
                words.append(' ').append(argument.startsWith("'") ? String.valueOf((int) argument.charAt(1)) : argument);
            }
        }
        return words.toString();
    }

    private static int answer(String words) {
        switch (words) {
            case "INVALID_ARGUMENT": return INVALID;
            case "NOT_POSSIBLE": return NOT_POSSIBLE;
            case "LIMIT_REACHED": return LIMIT;
            case "NOT_FOUND": return NOT_FOUND;
            default: return Integer.parseInt(words);
        }
    }

    private static Set<String> calls() {
        Set<String> names = new TreeSet<>();
        for (Method method : BellowsRound.class.getDeclaredMethods()) {
            if (Modifier.isPublic(method.getModifiers())) {
                names.add(method.getName());
            }
        }
        return names;
    }
}
