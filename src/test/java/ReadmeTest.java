import java.io.File;
import java.io.IOException;
import java.lang.reflect.InvocationTargetException;
import java.lang.reflect.Method;
import java.lang.reflect.Modifier;
import java.nio.charset.StandardCharsets;
import java.nio.file.Files;
import java.nio.file.Path;
import java.util.ArrayList;
import java.util.List;
import java.util.Set;
import java.util.TreeSet;
import java.util.regex.Matcher;
import java.util.regex.Pattern;

/** What README.md says holds: its examples, its program, its commands, its lists of calls and of tests. */
public final class ReadmeTest {

    private static final Path README = Path.of("README.md");
    private static final Path TESTS = Path.of("src/test/java");
    private static final String NEW_DESK = "Checkdesk desk = new Checkdesk();";
    private static final String PROGRAM = "public final class Mine {";
    private static final Pattern EXAMPLE = Pattern.compile("desk\\.(\\w+)\\(([-\\d, ]*)\\); +// (.+)");

    private static String page;

    public static void main(String[] args) throws IOException, InterruptedException {
        page = Files.readString(README);
        Due.is("the calls that an example shows", examples(), callsOfTheClass());
        Due.is("the calls that are named", named("`(\\w+)\\(\\d?\\)`"), callsOfTheClass());
        Due.is("the tests in the list", named("(?m)^\\| (\\w+Test) \\|"), files("Test.java"));
        Due.is("the files of BoundsTest", named("\\b([A-Z]\\w+Bounds)\\b"), files("Bounds.java"));
        commands();
        Due.end("ReadmeTest");
    }

    /** Each block that begins with a new desk, line by line; answers which calls it has. */
    private static Set<String> examples() {
        Set<String> calls = new TreeSet<>();
        for (String block : blocks("java")) {
            if (block.startsWith(PROGRAM)) {
                continue;
            }
            String[] lines = block.split("\n");
            Due.is("a block of examples begins with", lines[0], NEW_DESK);
            Checkdesk desk = new Checkdesk();
            for (int at = 1; at < lines.length; at++) {
                Matcher example = EXAMPLE.matcher(lines[at]);
                Due.is("an example: " + lines[at], example.matches(), true);
                if (example.matches()) {
                    calls.add(example.group(1));
                    Due.is(lines[at], answer(desk, example.group(1), example.group(2)), example.group(3).replaceFirst(": .*", ""));
                }
            }
        }
        return calls;
    }

    /** As the page writes it: a text in quotes, an exception by its name. */
    private static String answer(Checkdesk desk, String call, String numbers) {
        String[] given = numbers.isEmpty() ? new String[0] : numbers.split(", ");
        Class<?>[] types = new Class<?>[given.length];
        Object[] arguments = new Object[given.length];
        for (int i = 0; i < given.length; i++) {
            types[i] = int.class;
            arguments[i] = Integer.valueOf(given[i]);
        }
        try {
            Object answer = Checkdesk.class.getMethod(call, types).invoke(desk, arguments);
            return answer instanceof String ? "\"" + answer + "\"" : String.valueOf(answer);
        } catch (InvocationTargetException e) {
            return "throws " + e.getCause().getClass().getSimpleName();
        } catch (ReflectiveOperationException e) {
            return "there is no such call";
        }
    }

    private static Set<String> callsOfTheClass() {
        Set<String> calls = new TreeSet<>();
        for (Method method : Checkdesk.class.getDeclaredMethods()) {
            if (Modifier.isPublic(method.getModifiers())) {
                calls.add(method.getName());
            }
        }
        return calls;
    }

    private static Set<String> named(String pattern) {
        Set<String> names = new TreeSet<>();
        Matcher name = Pattern.compile(pattern).matcher(page);
        while (name.find()) {
            names.add(name.group(1));
        }
        return names;
    }

    private static Set<String> files(String ending) {
        Set<String> names = new TreeSet<>();
        for (File file : TESTS.toFile().listFiles()) {
            if (file.getName().endsWith(ending)) {
                names.add(file.getName().replace(".java", ""));
            }
        }
        return names;
    }

    /** Each command but .ci/run, which runs this test. */
    private static void commands() throws IOException, InterruptedException {
        List<String> blocks = blocks("sh");
        Due.is("so many blocks of commands", blocks.size(), 3);
        for (String block : blocks) {
            if (block.equals(".ci/run\n")) {
                Due.is(".ci/run can be run", Files.isExecutable(Path.of(".ci/run")), true);
            } else if (block.contains("Mine.java")) {
                Due.is(block + "prints `ab`", "prints `" + run(block).trim() + "`", page.contains("prints `ab`") ? "prints `ab`" : "");
            } else {
                Due.is(block + "tells that all is right", run(block).contains(" answers right, 0 wrong"), true);
            }
        }
    }

    /** What the commands print; nothing, if one fails. The program of the page and what is compiled stand in a folder of their own. */
    private static String run(String commands) throws IOException, InterruptedException {
        Path folder = Files.createTempDirectory("readme");
        try {
            Path mine = folder.resolve("Mine.java");
            Files.writeString(mine, program());
            String there = commands.replace("/tmp/out", folder.resolve("out").toString()).replace("Mine.java", mine.toString());
            Process process = new ProcessBuilder("sh", "-ec", there).redirectError(ProcessBuilder.Redirect.INHERIT).start();
            String printed = new String(process.getInputStream().readAllBytes(), StandardCharsets.UTF_8);
            int ended = process.waitFor();
            Due.is(commands + "ended, and printed " + printed, ended, 0);
            return ended == 0 ? printed : "";
        } finally {
            remove(folder.toFile());
        }
    }

    private static void remove(File file) {
        File[] inside = file.listFiles();
        for (File each : inside == null ? new File[0] : inside) {
            remove(each);
        }
        file.delete();
    }

    private static String program() {
        for (String block : blocks("java")) {
            if (block.startsWith(PROGRAM)) {
                return block;
            }
        }
        return "";
    }

    private static List<String> blocks(String kind) {
        List<String> blocks = new ArrayList<>();
        Matcher block = Pattern.compile("(?s)```" + kind + "\n(.*?)```").matcher(page);
        while (block.find()) {
            blocks.add(block.group(1));
        }
        return blocks;
    }
}
