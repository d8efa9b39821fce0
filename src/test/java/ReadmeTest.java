import java.io.IOException;
import java.nio.file.Files;
import java.nio.file.Path;
import java.util.ArrayList;
import java.util.LinkedHashMap;
import java.util.List;
import java.util.Map;
import java.util.regex.Matcher;
import java.util.regex.Pattern;

/** README.md: its lines of Java stand here too, in their order, and answer what is said beside them there. */
public final class ReadmeTest {
    private static final Path README = Path.of("README.md");
    private static final Path HERE = Path.of("src/test/java/ReadmeTest.java");

    private ReadmeTest() {
    }

    public static void main(String[] args) throws IOException {
        List<String> lines = linesOfJava();
        linesStandHere(lines);
        answersAreAsSaid(lines, example());
        everyCallIsNamed();
        everyTestIsNamed();
        Check.end();
    }

    /** The lines of README.md, and what each name holds behind them. */
    private static Map<String, Long> example() {
        QuakeBench bench = new QuakeBench();
        bench.addStation(50, 100);
        bench.addStation(150, 100);
        bench.addStation(100, 50);
        bench.addStation(100, 150);
        for (int station = 0; station < 4; station++) {
            bench.addPick(station, false, 9333);
        }
        int placed = bench.associate();
        int x = bench.event(0, 0);
        int y = bench.event(0, 1);
        int z = bench.event(0, 2);
        int time = bench.event(0, 3);
        int late = bench.residual(3);
        int gap = bench.gap(0);
        bench.setAmplitude(0, 1000);
        int magnitude = bench.magnitude(0);
        int event = bench.addEvent();
        for (int station = 0; station < 4; station++) {
            bench.give(bench.addPick(station, false, 29333), event);
        }
        long misfit = bench.seek(event);
        bench.setWeight(0, 1);
        int found = bench.count(3);
        try {
            bench.gap(0);
        } catch (IllegalStateException e) {
            bench.seek(0);
        }
        int again = bench.count(3);
        String[] names = "placed x y z time late gap magnitude event misfit found again".split(" ");
        long[] numbers = {placed, x, y, z, time, late, gap, magnitude, event, misfit, found, again};
        Map<String, Long> answers = new LinkedHashMap<>();
        for (int k = 0; k < names.length; k++) {
            answers.put(names[k], numbers[k]);
        }
        return answers;
    }

    private static List<String> linesOfJava() throws IOException {
        List<String> lines = new ArrayList<>();
        boolean inside = false;
        for (String line : Files.readAllLines(README)) {
            if (line.startsWith("```")) {
                inside = line.equals("```java");
            } else if (inside) {
                lines.add(line.trim());
            }
        }
        return lines;
    }

    private static void linesStandHere(List<String> lines) throws IOException {
        List<String> here = new ArrayList<>();
        for (String line : Files.readAllLines(HERE)) {
            here.add(line.trim());
        }
        int from = here.indexOf("QuakeBench bench = new QuakeBench();");
        for (String line : lines) {
            String code = line.replaceFirst("\\s*//.*", "");
            if (from >= here.size() || !here.get(from).equals(code)) {
                Check.tell("README.md's line does not stand here, or not in its order: " + code);
                return;
            }
            from++;
        }
    }

    private static void answersAreAsSaid(List<String> lines, Map<String, Long> answers) {
        Pattern said = Pattern.compile("(?:int|long) (\\w+) = .*; +// (-?\\d+)(:.*)?");
        for (String line : lines) {
            Matcher found = said.matcher(line);
            if (found.matches()) {
                Long got = answers.remove(found.group(1));
                if (got == null || got != Long.parseLong(found.group(2))) {
                    Check.tell("README.md says " + found.group(2) + " for " + found.group(1) + ", which is " + got);
                }
            }
        }
        if (!answers.isEmpty()) {
            Check.tell("README.md does not say what these are: " + answers.keySet());
        }
    }

    private static void everyCallIsNamed() throws IOException {
        String readme = Files.readString(README);
        for (var method : QuakeBench.class.getMethods()) {
            boolean own = method.getDeclaringClass() == QuakeBench.class;
            if (own && !readme.contains("`" + method.getName() + "`")) {
                Check.tell("README.md does not name the call " + method.getName());
            }
        }
    }

    private static void everyTestIsNamed() throws IOException {
        String readme = Files.readString(README);
        try (var files = Files.newDirectoryStream(HERE.getParent(), "*Test.java")) {
            for (Path file : files) {
                String name = file.getFileName().toString().replace(".java", "");
                if (!readme.contains("| `" + name + "` |")) {
                    Check.tell("README.md does not name the test " + name);
                }
            }
        }
    }
}
