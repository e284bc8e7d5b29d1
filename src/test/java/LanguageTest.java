import java.io.IOException;
import java.lang.reflect.Constructor;
import java.lang.reflect.Field;
import java.lang.reflect.Method;
import java.lang.reflect.Modifier;
import java.nio.file.Files;
import java.nio.file.Path;
import java.util.ArrayList;
import java.util.HashSet;
import java.util.List;
import java.util.Set;
import java.util.TreeSet;

/** The face of the class, and those rules of LANGUAGE.md that a plain look at the text and the class can tell. */
public final class LanguageTest {
    private static final Path PROGRAM = Path.of("src/main/java/MirrorHouse.java");
    private static final List<String> wrong = new ArrayList<>();

    private static final Set<String> FACE = Set.of(
        "house(int,int,int,int)int", "ofHouse(int,int)int", "ofSide(int,int,int)int", "side(int,int,int)int",
        "pane(int,int,int)int", "seen(int,int,int,int,int,int)int", "met(int,int,int,int,int)int",
        "image(int,int,int,int)int", "images(int,int,int,int,int)int", "report(int,int,int,int,boolean)int",
        "spots(int)int", "photograph(int,int,int,int)int", "taken(int)int", "walker(int,int,int,int)int",
        "ticks(int,int)int", "ofWalker(int,int)int", "shut(int)int", "far(int,int)int", "opened(int,int,int)int",
        "keeps(int,int,int,int,int,int,int,int)int", "changed(int,int)long", "change(int,int,int)int",
        "sheet(int,int,int)int", "lose(int)int", "put(int,int,int)int", "cell(int,int,int)long",
        "copy(int,int,int,int,int)int", "tell(int)int", "greet(int)int", "as(int,int)int", "trace()int",
        "fault()int", "many(int)int");

    public static void main(String[] args) throws IOException {
        face();
        members();
        text(Files.readString(PROGRAM));
        for (String line : wrong) System.out.println(line);
        System.out.println(wrong.size() + " faults of language");
        if (!wrong.isEmpty()) System.exit(1);
    }

    private static void must(boolean so, String what) {
        if (!so) wrong.add(what);
    }

    private static void face() {
        Class<?> c = MirrorHouse.class;
        must(Modifier.isPublic(c.getModifiers()) && Modifier.isFinal(c.getModifiers()), "public final class");
        Set<String> found = new TreeSet<>();
        Set<String> names = new HashSet<>();
        for (String one : FACE) names.add(one.substring(0, one.indexOf('(')));
        for (Method m : c.getDeclaredMethods()) {
            if (m.isSynthetic()) continue;
            if (Modifier.isPrivate(m.getModifiers())) must(!names.contains(m.getName()), "private " + m.getName());
            else found.add(signature(m));
        }
        must(found.equals(new TreeSet<>(FACE)), "the methods of the face: " + found);
        Constructor<?>[] made = c.getDeclaredConstructors();
        must(made.length == 1 && Modifier.isPublic(made[0].getModifiers()) && made[0].getParameterCount() == 0, "constructor");
        Set<String> constants = new TreeSet<>();
        for (Field f : c.getDeclaredFields()) {
            if (!Modifier.isPrivate(f.getModifiers())) constants.add(f.getName() + " " + f.getType() + " " + f.getModifiers());
        }
        int open = Modifier.PUBLIC | Modifier.STATIC | Modifier.FINAL;
        Set<String> due = new TreeSet<>();
        for (String name : List.of("UNKNOWN", "OUTSIDE", "STATE", "FULL", "NONE")) due.add(name + " int " + open);
        due.add("LOST long " + open);
        must(constants.equals(due), "the constants of the face: " + constants);
    }

    private static boolean isOfFace(String name) {
        for (String one : FACE) if (one.startsWith(name + "(")) return true;
        return false;
    }

    private static String signature(Method m) {
        StringBuilder text = new StringBuilder(m.getName()).append('(');
        for (Class<?> p : m.getParameterTypes()) text.append(text.charAt(text.length() - 1) == '(' ? "" : ",").append(p.getName());
        return text.append(')').append(m.getReturnType().getName()).toString();
    }

    private static void members() {
        List<Class<?>> all = new ArrayList<>(List.of(MirrorHouse.class.getDeclaredClasses()));
        must(all.size() <= 11, "at most some twelve classes");
        all.add(MirrorHouse.class);
        for (Class<?> c : all) {
            must(c == MirrorHouse.class || Modifier.isStatic(c.getModifiers()), c + " is static");
            must(c == MirrorHouse.class || !Modifier.isPublic(c.getModifiers()), c + " is not public");
            int fields = 0;
            for (Field f : c.getDeclaredFields()) {
                if (!Modifier.isStatic(f.getModifiers())) fields++;
                else must(Modifier.isFinal(f.getModifiers()), f + " is final");
            }
            must(fields <= 20, c + " has " + fields + " fields");
            for (Method m : c.getDeclaredMethods()) {
                must(c == MirrorHouse.class || !isOfFace(m.getName()), m + " bears a name of the face");
                must(m.getParameterCount() <= 7 || m.getName().equals("keeps"), m + " takes too many");
                must(!m.getName().startsWith("lambda$"), m + " is a lambda");
            }
        }
    }

    private static void text(String program) {
        String bare = program.replaceAll("(?s)/\\*.*?\\*/", " ").replaceAll("//[^\n]*", " ").replaceAll("'.'", "' '");
        String[] never = {"throw", "throws", "try", "catch", "finally", "synchronized", "assert", "package", "volatile",
            "goto", "native", "equals", "hashCode", "toString", "Object", "Exception", "Random", "System\\.(?!arraycopy)",
            "Thread", "instanceof", "->", "::", "\\w+Exact", "StringBuilder", "HashMap", "Stream"};
        for (String word : never) {
            String sought = Character.isLetter(word.charAt(0)) ? "\\b" + word : word;
            must(!java.util.regex.Pattern.compile(sought + (word.matches("\\w+") ? "\\b" : "")).matcher(bare).find(), "says " + word);
        }
        for (String line : program.split("\n")) {
            must(!line.startsWith("import ") || line.equals("import java.util.Arrays;"), line);
            must(line.length() <= 130, "a long line: " + line);
        }
        for (int i = 0; i < program.length(); i++) must(program.charAt(i) < 128, "a sign beyond 127 at " + i);
        methodsAreShort(program.split("\n"));
    }

    private static void methodsAreShort(String[] lines) {
        int began = -1;
        for (int i = 0; i < lines.length; i++) {
            if (lines[i].matches("( {4}| {8})(\\w[^=;]*)\\) \\{")) began = i;
            if (lines[i].matches("( {4}| {8})\\}") && began >= 0) {
                must(i - began <= 60, "a long method: " + lines[began].trim());
                began = -1;
            }
        }
    }
}
