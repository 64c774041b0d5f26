import java.io.IOException;
import java.lang.reflect.Method;
import java.net.URL;
import java.net.URLClassLoader;
import java.nio.file.Files;
import java.nio.file.Path;
import java.util.ArrayList;
import java.util.List;
import java.util.Set;
import java.util.TreeSet;
import java.util.regex.Matcher;
import java.util.regex.Pattern;
import javax.tools.JavaCompiler;
import javax.tools.ToolProvider;

/** What README.md shows of the class's use answers as README.md says. */
public final class ReadmeTest {
    private static final Pattern ANSWER = Pattern.compile("(.*;)\\s*// answers ([\\w.]+)(:.*)?");
    private static final Pattern NAMED = Pattern.compile("\\s*(?:\\w+ )?(\\w+) = .*;");
    private static final Pattern CALL = Pattern.compile("goals\\.(\\w+)\\(");
    private static final Pattern SORT = Pattern.compile("\\| (\\d+) \\| (\\w+) \\| ([^|]+) \\| ([^|]+) \\|([^|]*)\\|");
    private static final Pattern NUMBER = Pattern.compile("\\d+");
    private static final int SORTS = 13;
    private static final Due DUE = new Due();

    public static void main(String[] args) throws Exception {
        List<String> lines = Files.readAllLines(Path.of("README.md"));
        everyMethodIsShown(lines);
        sortsAreAsTheTableTells(lines);
        programsAnswerAsShown(lines);
        DUE.end();
    }

    private static void everyMethodIsShown(List<String> lines) {
        Set<String> missing = new TreeSet<>();
        for (Method method : GoalOrder.class.getMethods()) {
            if (method.getDeclaringClass() == GoalOrder.class) {
                missing.add(method.getName());
            }
        }
        for (String line : lines) {
            Matcher call = CALL.matcher(line);
            while (call.find()) {
                missing.remove(call.group(1));
            }
        }
        DUE.is("methods that README.md doesn't show: " + missing, missing.size(), 0);
    }

    private static void sortsAreAsTheTableTells(List<String> lines) {
        int told = 0;
        for (String line : lines) {
            Matcher sort = SORT.matcher(line);
            if (sort.matches()) {
                int number = Integer.parseInt(sort.group(1));
                DUE.is("the sort told next", number, told);
                DUE.about(sort.group(2));
                partsAreAsTold(number, sort.group(3));
                variablesAreAsTold(number, sort.group(4));
                waysAreAsTold(number, sort.group(5));
                DUE.about("");
                told++;
            }
        }
        DUE.is("sorts in the table", told, SORTS);
    }

    /** A tree takes 249 parts at most, so that many is what "any" comes to. */
    private static void partsAreAsTold(int sort, String parts) {
        GoalOrder goals = new GoalOrder();
        goals.predicate(0);
        int whole = sort == Sorts.ROW ? 0 : Sorts.call(goals, 0, sort, 0, new int[fewest(sort)]);
        int taken = 0;
        while (taken < 300 && goals.add(whole, Sorts.TRUE, 0) != GoalOrder.NONE) {
            taken++;
        }
        DUE.is("parts taken", taken, parts.equals("any") ? 249 - (whole == 0 ? 0 : 1) : Integer.parseInt(parts));
    }

    private static void variablesAreAsTold(int sort, String variables) {
        if (sort == Sorts.CALL) {
            DUE.is(variables, variables.equals("one for each argument"), true);
            for (int arguments = 0; arguments <= 6; arguments++) {
                rowsTaken(sort, arguments, arguments, arguments);
            }
            return;
        }
        String[] ends = variables.split(" \\.\\. ");
        rowsTaken(sort, 0, Integer.parseInt(ends[0]), Integer.parseInt(ends[ends.length - 1]));
    }

    private static void rowsTaken(int sort, int arguments, int fewest, int most) {
        for (int many = 0; many <= 7; many++) {
            GoalOrder goals = new GoalOrder();
            goals.predicate(arguments);
            boolean taken = Sorts.call(goals, 0, sort, 0, new int[many]) == 1;
            DUE.is("a row of " + many + " taken", taken, many >= fewest && many <= most);
        }
    }

    /** The numbers in the table are the ways that there are, with any of two variables given. */
    private static void waysAreAsTold(int sort, String ways) {
        Set<Integer> due = new TreeSet<>();
        Matcher number = NUMBER.matcher(ways);
        while (number.find()) {
            due.add(Integer.parseInt(number.group()));
        }
        if (sort == Sorts.CALL) {
            DUE.is(ways, ways.equals(" the number of its mode "), true);
            due.addAll(List.of(0, 1));
        }
        Set<Integer> got = new TreeSet<>();
        for (int many = 0; many <= 2; many++) {
            for (int set = 0; set < 4; set++) {
                got.add(way(sort, many, set));
            }
        }
        got.remove(GoalOrder.NONE);
        DUE.is("ways " + got + " as told", got.equals(due), true);
    }

    /** NONE where the sort doesn't take a row of so many, or can't be done with that set. */
    private static int way(int sort, int many, int set) {
        GoalOrder goals = new GoalOrder();
        goals.predicate(2);
        goals.mode(0, 2);
        goals.mode(0, 3);
        for (int x = 0; x < 2; x++) {
            goals.given(x, (set >> x & 1) != 0);
        }
        int atom = Sorts.call(goals, 0, sort, 0, many == 2 ? new int[] {0, 1} : new int[many]);
        goals.order();
        return goals.node(atom, -1);
    }

    private static int fewest(int sort) {
        GoalOrder goals = new GoalOrder();
        goals.predicate(0);
        int many = 0;
        while (many < 7 && Sorts.call(goals, 0, sort, 0, new int[many]) == GoalOrder.NONE) {
            many++;
        }
        return many;
    }

    private static void programsAnswerAsShown(List<String> lines) throws Exception {
        Path made = Files.createTempDirectory("readme");
        Path source = made.resolve("Shown.java");
        try {
            Files.write(source, program(lines));
            JavaCompiler compiler = ToolProvider.getSystemJavaCompiler();
            String path = System.getProperty("java.class.path");
            int failed = compiler.run(null, null, null, "-cp", path, "-d", made.toString(), source.toString());
            DUE.is("compiling what README.md shows", failed, 0);
            if (failed == 0) {
                runShown(made);
            }
        } finally {
            remove(made);
        }
    }

    private static void runShown(Path made) throws Exception {
        try (URLClassLoader loader = new URLClassLoader(new URL[] {made.toUri().toURL()})) {
            loader.loadClass("Shown").getMethod("run", Due.class).invoke(null, DUE);
        }
    }

    private static void remove(Path directory) throws IOException {
        try (var files = Files.list(directory)) {
            for (Path file : files.toList()) {
                Files.delete(file);
            }
        }
        Files.delete(directory);
    }

    /** Each java block is a block of one method, its lines as they stand, but for those that tell an answer. */
    private static List<String> program(List<String> lines) {
        List<String> program = new ArrayList<>();
        program.add("public final class Shown {");
        program.add("public static void run(Due due) {");
        boolean inside = false;
        int told = 0;
        for (int i = 0; i < lines.size(); i++) {
            String line = lines.get(i);
            if (line.equals("```java")) {
                program.add("{");
                inside = true;
            } else if (inside && line.startsWith("```")) {
                program.add("}");
                inside = false;
            } else if (inside) {
                Matcher answer = ANSWER.matcher(line);
                told += answer.matches() ? 1 : 0;
                boolean otherWords = line.contains("//") && !answer.matches();
                DUE.is("line " + (i + 1) + " has words that are no answer", otherWords, false);
                program.add(answer.matches() ? checked(i + 1, answer.group(1), answer.group(2)) : line);
            }
        }
        program.add("}");
        program.add("}");
        DUE.is("answers told in README.md", told > 0, true);
        return program;
    }

    private static String checked(int line, String statement, String answer) {
        String where = "due.is(\"README.md, line " + line + "\", ";
        Matcher named = NAMED.matcher(statement);
        if (named.matches()) {
            return statement + " " + where + named.group(1) + ", " + answer + ");";
        }
        return where + statement.substring(0, statement.length() - 1) + ", " + answer + ");";
    }
}
