import java.io.IOException;
import java.nio.file.Files;
import java.nio.file.Path;
import java.util.regex.Matcher;
import java.util.regex.Pattern;

/** Prints a test, ReadmeRun, made of the example in README.md: each call there must answer what stands behind it. */
public final class ReadmeProgram {
    private static final Pattern LINE = Pattern.compile("(?:(?:int|long) (\\w+) = )?(.*);\\s*// (-?\\d+|[A-Z]+)(?:: .*)?");

    private ReadmeProgram() {
    }

    public static void main(String[] args) throws IOException {
        String readme = Files.readString(Path.of("README.md"));
        int from = readme.indexOf("```java\n") + 8;
        String example = readme.substring(from, readme.indexOf("```", from));
        StringBuilder run = new StringBuilder();
        for (String line : example.split("\n")) run.append("        ").append(tested(line)).append('\n');
        System.out.println(String.join("\n",
            "public final class ReadmeRun {",
            "    private static int calls = 0, wrong = 0;",
            "    private static void due(String call, long got, long want) {",
            "        calls++;",
            "        if (got == want) return;",
            "        wrong++;",
            "        System.out.println(call + \" answered \" + got + \", README.md tells \" + want);",
            "    }",
            "    public static void main(String[] args) {",
            run.toString(),
            "        System.out.println(calls + \" answers of the example, \" + wrong + \" not as told\");",
            "        if (wrong != 0 || calls < 20) System.exit(1);",
            "    }",
            "}"));
    }

    private static String tested(String line) {
        Matcher m = LINE.matcher(line);
        if (!m.matches()) return line;
        String want = m.group(3).matches("[A-Z]+") ? "MirrorHouse." + m.group(3) : m.group(3);
        String call = "\"" + m.group(2).replace("\"", "\\\"") + "\"";
        if (m.group(1) == null) return "due(" + call + ", " + m.group(2) + ", " + want + ");";
        return line + "\n        due(" + call + ", " + m.group(1) + ", " + want + ");";
    }
}
