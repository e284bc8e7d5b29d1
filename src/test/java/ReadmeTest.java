import java.io.IOException;
import java.lang.reflect.InvocationTargetException;
import java.lang.reflect.Method;
import java.nio.file.Files;
import java.nio.file.Path;
import java.util.ArrayList;
import java.util.LinkedHashMap;
import java.util.List;
import java.util.Map;
import java.util.Random;
import java.util.Set;
import java.util.TreeSet;
import java.util.regex.Matcher;
import java.util.regex.Pattern;
import java.util.stream.Stream;

/** What README.md says of the class and of the tests is so: its tables, against many calls of each method. */
public final class ReadmeTest {
    private static final Path README = Path.of("README.md");
    private static final Path PROGRAM = Path.of("src/main/java/MirrorHouse.java");
    private static final Path TESTS = Path.of("src/test/java");
    private static final int CALLS = 60000, ROUNDS_OF_AN_OBJECT = 60;
    private static final List<String> FAULTS = List.of("NULL", "CAST", "INDEX", "SIZE");
    private static final int[] FEW = {0, 1, 2}, SOME = {-1, 3, 4, 5, 6, 10}, OTHERS = {
        -2, -61, 7, 8, 9, 11, 12, 15, 23, 24, 25, 30, 31, 43, 60, 61, 199, 200, 201, Integer.MIN_VALUE, Integer.MAX_VALUE};
    private static final List<Cases.Recipe> RECIPES = List.of(
        Recipes.NEW, Recipes.SOME, Recipes.FULL, ReadmeTest::withoutPhotograph, ReadmeTest::traced);

    private static final List<String> wrong = new ArrayList<>();
    /** Of each name of an answer below 0 what it is. */
    private static final Map<String, Long> codes = new LinkedHashMap<>();
    /** Of each call, with the names of what it takes, the names of what it answers below 0. */
    private static final Map<String, Set<String>> told = new LinkedHashMap<>();

    private ReadmeTest() {
    }

    public static void main(String[] args) throws IOException, IllegalAccessException {
        String readme = Files.readString(README);
        readTables(readme);
        constants();
        calls(Files.readString(PROGRAM));
        for (Map.Entry<String, Set<String>> row : told.entrySet()) answers(row.getKey(), row.getValue());
        tests(readme);
        for (String line : wrong) System.out.println(line);
        System.out.println(told.size() + " calls told, " + wrong.size() + " faults of README.md");
        if (!wrong.isEmpty()) System.exit(1);
    }

    private static void must(boolean so, String what) {
        if (!so && !wrong.contains(what)) wrong.add(what);
    }

    private static void readTables(String readme) {
        for (String line : readme.split("\n")) {
            String[] cells = line.split("\\s*\\|\\s*", -1);
            if (cells.length != 5 || !cells[1].matches("`.*`")) continue;
            String first = cells[1].replace("`", "");
            if (first.endsWith(")")) told.put(first, names(cells[3]));
            else codes.put(first, code(cells[2]));
        }
    }

    private static Set<String> names(String cell) {
        Set<String> names = new TreeSet<>();
        for (String name : cell.split(", ")) if (!name.isEmpty()) names.add(name);
        return names;
    }

    private static Long code(String cell) {
        if (cell.equals("`Long.MIN_VALUE`")) return Long.MIN_VALUE;
        return cell.matches("-\\d+") ? Long.valueOf(cell) : null;
    }

    private static void constants() {
        Map<String, Long> due = new LinkedHashMap<>();
        due.put("UNKNOWN", (long) MirrorHouse.UNKNOWN);
        due.put("OUTSIDE", (long) MirrorHouse.OUTSIDE);
        due.put("STATE", (long) MirrorHouse.STATE);
        due.put("FULL", (long) MirrorHouse.FULL);
        due.put("NONE", (long) MirrorHouse.NONE);
        for (int fault = 1; fault <= 4; fault++) due.put(FAULTS.get(fault - 1), -10L - fault);
        due.put("TEXT", null);
        due.put("LOST", MirrorHouse.LOST);
        due.put("NUMBER", null);
        must(codes.equals(due), "answers below 0: " + codes + " instead of " + due);
    }

    /** The calls told are those of the class, in its order, with the names of what they take. */
    private static void calls(String program) {
        List<String> due = new ArrayList<>();
        Matcher m = Pattern.compile("\n    public (?:int|long) (\\w+)\\(([^)]*)\\) \\{").matcher(program);
        while (m.find()) due.add(m.group(1) + "(" + m.group(2).replaceAll("\\w+ (\\w+)", "$1") + ")");
        must(due.equals(new ArrayList<>(told.keySet())), "calls: " + told.keySet() + " instead of " + due);
    }

    // ---- answers below 0

    private static void answers(String call, Set<String> names) throws IllegalAccessException {
        Random random = new Random(call.length());
        Method method = methodOf(call);
        if (method == null) return;
        Set<String> met = new TreeSet<>();
        Counted x = null;
        for (int k = 0; k < CALLS; k++) {
            if (k % ROUNDS_OF_AN_OBJECT == 0) x = RECIPES.get(k / ROUNDS_OF_AN_OBJECT % RECIPES.size()).make();
            // a fault ahead, by a call that changes nothing else
            x.sheet(0, 0, -1);
            Object[] with = some(method, random);
            long answer = answerOf(method, x, with);
            if (answer < 0) met.add(nameOf(answer, names));
            faultBehind(call, names, answer, method.getName().equals("fault") ? 4 : x.fault());
        }
        must(met.equals(names), call + " answers below 0 " + met + ", told are " + names);
    }

    private static Method methodOf(String call) {
        String name = call.substring(0, call.indexOf('('));
        for (Method m : Counted.class.getDeclaredMethods()) {
            if (m.getName().equals(name)) return m;
        }
        must(false, "no such call: " + call);
        return null;
    }

    private static Object[] some(Method method, Random random) {
        Object[] with = new Object[method.getParameterCount()];
        for (int k = 0; k < with.length; k++) {
            boolean saw = method.getParameterTypes()[k] == boolean.class;
            int dice = random.nextInt(20);
            int[] of = dice < 14 ? FEW : dice < 18 ? SOME : OTHERS;
            int v = of[random.nextInt(of.length)];
            if (saw) with[k] = v > 0;
            else with[k] = v;
        }
        return with;
    }

    private static long answerOf(Method method, Counted x, Object[] with) throws IllegalAccessException {
        try {
            return ((Number) method.invoke(x, with)).longValue();
        } catch (InvocationTargetException e) {
            must(false, method.getName() + " threw " + e.getCause());
            return 0;
        }
    }

    /** Which of the names told an answer below 0 is; its number, if it is none of them. */
    private static String nameOf(long answer, Set<String> names) {
        for (String name : names) {
            Long code = codes.get(name);
            if (code != null && code == answer) return name;
        }
        if (answer <= -100 && names.contains("TEXT")) return "TEXT";
        return names.contains("NUMBER") ? "NUMBER" : Long.toString(answer);
    }

    /** A call that names faults sets fault(), to 0 if it came to none; any other leaves it as it was, which is 4 here. */
    private static void faultBehind(String call, Set<String> names, long answer, int fault) {
        if (call.startsWith("cell(")) {
            must(answer == MirrorHouse.LOST ? fault >= 0 && fault < 4 : fault == 0, "fault() behind " + call + ": " + fault);
            return;
        }
        boolean namesOne = FAULTS.stream().anyMatch(names::contains);
        int due = !namesOne ? 4 : answer <= -11 && answer >= -14 ? (int) (-10 - answer) : 0;
        must(fault == due, "fault() behind " + call + ": " + fault + ", due is " + due);
    }

    /** Houses 0, 2 alike in W and H, and one that is not; no photograph; sheet 2 of shorts tells the sides 1, 0. */
    private static Counted withoutPhotograph() {
        Counted x = new Counted();
        Due.build(x, Due.all(2, 1, 'o'));
        Due.build(x, Due.all(1, 1, 'o'));
        Due.build(x, Due.all(2, 1, 'm'));
        x.sheet(2, 1, 2);
        x.put(2, 0, 1);
        x.walker(2, 0, 0, 0);
        return x;
    }

    /** A trace that is below 0. */
    private static Counted traced() {
        Counted x = Recipes.SOME.make();
        for (int k = 0; k < 60 && x.trace() >= 0; k++) x.greet(0);
        return x;
    }

    // ---- tests

    private static void tests(String readme) throws IOException {
        Set<String> named = new TreeSet<>();
        Matcher m = Pattern.compile("`(\\w+Test)`").matcher(readme);
        while (m.find()) named.add(m.group(1));
        Set<String> due = new TreeSet<>();
        try (Stream<Path> files = Files.list(TESTS)) {
            files.map(f -> f.getFileName().toString()).filter(f -> f.endsWith("Test.java"))
                .forEach(f -> due.add(f.replace(".java", "")));
        }
        must(named.equals(due), "tests: " + named + " instead of " + due);
    }
}
