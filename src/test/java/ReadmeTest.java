import java.io.File;
import java.io.IOException;
import java.lang.reflect.Method;
import java.nio.charset.StandardCharsets;
import java.nio.file.Files;
import java.nio.file.Path;
import java.util.ArrayList;
import java.util.HashMap;
import java.util.List;
import java.util.Map;
import java.util.Set;
import java.util.TreeSet;
import java.util.regex.Matcher;
import java.util.regex.Pattern;

/** README.md: its calls answer as it says, its commands run as they stand, its tests are those that there are. */
public final class ReadmeTest {
    private static final String FRESH = "AnalysisHouse house = new AnalysisHouse();";
    private static final Pattern CALL =
        Pattern.compile("(?:int (\\w+) = )?house\\.(\\w+)\\(([^)]*)\\);\\s+// (-?\\d+|true|false|NONE|NO): \\S.*");

    public static void main(String[] args) throws Exception {
        String readme = Files.readString(Path.of("README.md"), StandardCharsets.UTF_8);
        Set<String> called = new TreeSet<>();
        for (String example : blocks(readme, "java")) {
            call(example, called);
        }
        everyCall(called);
        for (String commands : blocks(readme, "sh")) {
            command(commands);
        }
        tests(readme);
        Due.end("ReadmeTest");
    }

    private static List<String> blocks(String readme, String sort) {
        List<String> found = new ArrayList<>();
        Matcher block = Pattern.compile("```" + sort + "\\R(.*?)```", Pattern.DOTALL).matcher(readme);
        while (block.find()) {
            found.add(block.group(1));
        }
        Due.due("README.md has blocks of " + sort, !found.isEmpty(), true);
        return found;
    }

    /** Each line is a new house, or one call with what it answers: there is none that is not held to its answer. */
    private static void call(String example, Set<String> called) throws ReflectiveOperationException {
        AnalysisHouse house = new AnalysisHouse();
        Map<String, Integer> names = new HashMap<>();
        for (String line : example.split("\\R")) {
            if (line.equals(FRESH)) {
                house = new AnalysisHouse();
                continue;
            }
            Matcher call = CALL.matcher(line);
            boolean reads = call.matches();
            Due.due("'" + line + "' reads as a call with its answer", reads, true);
            if (reads) {
                called.add(call.group(2));
                long got = answer(house, call.group(2), numbers(call.group(3), names));
                Due.due("README.md: " + line.trim(), got, number(call.group(4)));
                if (call.group(1) != null) {
                    names.put(call.group(1), (int) got);
                }
            }
        }
    }

    private static int[] numbers(String text, Map<String, Integer> names) {
        if (text.isBlank()) {
            return new int[0];
        }
        String[] parts = text.split(",");
        int[] numbers = new int[parts.length];
        for (int i = 0; i < parts.length; i++) {
            String part = parts[i].trim();
            numbers[i] = names.containsKey(part) ? names.get(part) : Integer.parseInt(part);
        }
        return numbers;
    }

    private static long number(String text) {
        switch (text) {
            case "true":
                return 1;
            case "false":
                return 0;
            case "NONE":
                return AnalysisHouse.NONE;
            case "NO":
                return AnalysisHouse.NO;
            default:
                return Long.parseLong(text);
        }
    }

    private static long answer(AnalysisHouse house, String name, int[] with) throws ReflectiveOperationException {
        Class<?>[] types = new Class<?>[with.length];
        Object[] values = new Object[with.length];
        for (int i = 0; i < with.length; i++) {
            types[i] = int.class;
            values[i] = with[i];
        }
        Object got = AnalysisHouse.class.getMethod(name, types).invoke(house, values);
        return got instanceof Boolean ? (Boolean) got ? 1 : 0 : ((Number) got).longValue();
    }

    private static void everyCall(Set<String> called) {
        for (Method method : AnalysisHouse.class.getDeclaredMethods()) {
            if (java.lang.reflect.Modifier.isPublic(method.getModifiers())) {
                Due.due("README.md shows " + method.getName() + "()", called.contains(method.getName()), true);
            }
        }
    }

    private static void command(String commands) throws IOException, InterruptedException {
        if (commands.trim().equals(".ci/run")) {
            // this test is one of those that it runs, so it can only be looked at
            Due.due(".ci/run can be run", Files.isExecutable(Path.of(".ci/run")), true);
            return;
        }
        Path room = Files.createTempDirectory("readme");
        Path told = room.resolve("told.txt");
        ProcessBuilder shell = new ProcessBuilder("bash", "-e", "-c", commands);
        // what the commands make with mktemp lies where it can be cleared away
        shell.environment().put("TMPDIR", room.toString());
        shell.redirectErrorStream(true).redirectOutput(told.toFile());
        int code = shell.start().waitFor();
        Due.due("the exit code of README.md's commands\n" + commands, code, 0);
        if (code != 0) {
            System.out.println(Files.readString(told));
        }
        clear(room.toFile());
    }

    private static void clear(File file) {
        File[] inside = file.listFiles();
        for (File each : inside == null ? new File[0] : inside) {
            clear(each);
        }
        file.delete();
    }

    private static void tests(String readme) {
        Set<String> named = new TreeSet<>();
        Matcher name = Pattern.compile("\\b[A-Z]\\w*[a-z]Test\\b").matcher(readme);
        while (name.find()) {
            named.add(name.group());
        }
        named.remove("EdgesTest");
        Set<String> there = new TreeSet<>();
        String[] files = new File("src/test/java").list();
        for (String file : files == null ? new String[0] : files) {
            if (file.endsWith("Test.java")) {
                there.add(file.substring(0, file.length() - ".java".length()));
            }
        }
        Due.due("README.md names " + named + ", there are " + there, named.equals(there), true);
    }
}
