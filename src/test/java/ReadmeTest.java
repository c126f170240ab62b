import java.io.IOException;
import java.lang.reflect.Method;
import java.lang.reflect.Modifier;
import java.nio.file.Files;
import java.nio.file.Path;
import java.util.List;
import java.util.Set;
import java.util.TreeSet;
import java.util.regex.Matcher;
import java.util.regex.Pattern;
import java.util.stream.Collectors;
import java.util.stream.Stream;

/** README.md: the calls that it shows answer what it says, and it names every method, every refusal and every test. */
public final class ReadmeTest {
    private static final Path PLACE = Path.of("README.md");

    public static void main(String[] args) throws IOException {
        String readme = Files.readString(PLACE);
        theCallsShown(readme);
        theMethods(readme);
        theRefusals(readme);
        whereNothingIsRefused();
        theTests(readme);
        Due.end("ReadmeTest");
    }

    /** The examples are one run on one object, which the first of them makes. */
    private static void theCallsShown(String readme) {
        Run run = Run.of("README.md");
        int shown = 0;
        for (String line : readme.split("\n")) {
            Matcher call = Pattern.compile("shop\\.(\\w+\\(.*\\)); +// (-?\\d+)\\b.*").matcher(line);
            if (call.matches()) {
                shown++;
                run.is(lettersAsNumbers(call.group(1)), Long.parseLong(call.group(2)));
            } else {
                Due.holds("a call without an answer: " + line, !line.startsWith("shop."));
            }
        }
        Due.is("calls shown", shown, 32);
    }

    private static String lettersAsNumbers(String call) {
        Matcher letter = Pattern.compile("'(.)'").matcher(call);
        return letter.replaceAll(found -> Integer.toString(found.group(1).charAt(0)));
    }

    /** The table of methods has each once. */
    private static void theMethods(String readme) {
        Set<String> named = new TreeSet<>();
        int names = 0;
        String table = readme.substring(readme.indexOf("| methods |"), readme.indexOf("### A call that can't be"));
        Matcher name = Pattern.compile("`(\\w+)`").matcher(table);
        while (name.find()) {
            named.add(name.group(1));
            names++;
        }
        Set<String> face = Stream.of(DrawerOfArms.class.getDeclaredMethods()).filter(m -> Modifier.isPublic(m.getModifiers()))
            .map(Method::getName).collect(Collectors.toCollection(TreeSet::new));
        Due.holds("the methods named: " + named, named.equals(face));
        Due.is("each once", names, face.size());
        Due.holds("so many", readme.contains("by its " + face.size() + " methods"));
    }

    /** A call for each row of the table, and for each that answers ten further down. */
    private static void theRefusals(String readme) {
        Run run = Run.of("README.md, A call that can't be").is("arm(0, 0, 0, 5, 5, 5)", 0).is("show(0, 0)", 1);
        String[] refused = {"row(8, 0, 0)", "set(0, 0, 0)", "shop(1)", "row(0, 0, -1)", "whole(2)", "off(0)", "row(0, 0, 161)"};
        for (int i = 1; i <= refused.length; i++) {
            run.is(refused[i - 1], -i).is("status(" + (10 + i) + ")", 1);
            Due.holds("the row of -" + i, readme.contains("\n| -" + i + " | `status(" + (10 + i) + ")` |"));
        }
        run.go("on(0, 0) = -11; best(0, 0) = -11; status(11) = 3; given(0) = -15; dearest(2) = -15; status(15) = 3; judge(0, 0) = -12; status(12) = 2");
        run.go("doll(5, 5, 5, 0, 1, 0, 0) = 0; on(0, 2) = -16; best(0, 2) = -16; status(16) = 3");
    }

    private static void whereNothingIsRefused() {
        Run.of("README.md, some calls refuse nothing", "element(8, 0) = 0; act(0, 0, 0) = 0; holds(8) = -1; trace(0) = -1; status(99) = -1")
            .each("status(#)", 0, 11, 12, 13, 14, 15, 16, 17);
    }

    private static void theTests(String readme) throws IOException {
        List<Path> files;
        try (Stream<Path> all = Files.list(Path.of("src/test/java"))) {
            files = all.collect(Collectors.toList());
        }
        for (Path file : files) {
            String name = file.getFileName().toString().replace(".java", "");
            if (name.endsWith("Test")) {
                Due.holds(name + " is told of", readme.contains("`" + name + "`"));
            }
        }
        Matcher told = Pattern.compile("`(\\w+Test)`").matcher(readme);
        while (told.find()) {
            Due.holds(told.group(1) + " is there", files.contains(Path.of("src/test/java", told.group(1) + ".java")));
        }
    }
}
