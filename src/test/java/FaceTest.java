import java.lang.reflect.Constructor;
import java.lang.reflect.Field;
import java.lang.reflect.Method;
import java.lang.reflect.Modifier;
import java.nio.charset.StandardCharsets;
import java.nio.file.Files;
import java.nio.file.Path;
import java.util.ArrayList;
import java.util.List;
import java.util.Set;
import java.util.TreeSet;
import java.util.regex.Matcher;
import java.util.regex.Pattern;

/** The public face, and what LANGUAGE.md forbids as far as a plain look at the class and its source can tell. */
public final class FaceTest {
    private static final String[] FACE = {"write i", "erase", "fault", "town", "street ii", "as ii", "day", "hose ii",
        "poll ii", "undo", "keep i", "back i", "where i", "wet ii", "carry i", "reach i", "month ii", "seen ii", "forget",
        "polls i", "chance iii", "count i"};
    private static int wrong = 0;

    private static void sound(boolean so, String what) {
        if (!so) {
            wrong++;
            System.out.println("not as due: " + what);
        }
    }

    private static String shape(Method m) {
        StringBuilder shape = new StringBuilder(m.getName());
        for (int i = 0; i < m.getParameterCount(); i++) {
            sound(m.getParameterTypes()[i] == int.class, m + " takes int alone");
            shape.append(i == 0 ? " i" : "i");
        }
        return shape.toString();
    }

    private static void face() {
        int type = RainBallot.class.getModifiers();
        sound(Modifier.isPublic(type) && Modifier.isFinal(type), "the class is public and final");
        Set<String> open = new TreeSet<>();
        Set<String> names = new TreeSet<>();
        for (Method m : RainBallot.class.getDeclaredMethods()) {
            if (Modifier.isPrivate(m.getModifiers())) continue;
            sound(Modifier.isPublic(m.getModifiers()) && !Modifier.isStatic(m.getModifiers()), m + " is public");
            sound(m.getReturnType() == int.class, m + " answers int");
            open.add(shape(m));
            names.add(m.getName());
        }
        sound(open.equals(new TreeSet<>(List.of(FACE))), "the methods are " + open);
        for (Constructor<?> c : RainBallot.class.getDeclaredConstructors()) {
            sound(Modifier.isPublic(c.getModifiers()) && c.getParameterCount() == 0, c + " is the document's");
        }
        Set<String> constants = new TreeSet<>();
        for (Field f : RainBallot.class.getDeclaredFields()) {
            if (!Modifier.isPrivate(f.getModifiers())) constants.add(f.getName());
        }
        sound(constants.equals(new TreeSet<>(List.of("NONE", "UNKNOWN", "OUTSIDE", "NOT", "FULL"))), "constants " + constants);
        inside(names);
    }

    private static void inside(Set<String> names) {
        List<Class<?>> classes = new ArrayList<>(List.of(RainBallot.class.getDeclaredClasses()));
        sound(classes.size() <= 11, "some twelve classes");
        classes.add(RainBallot.class);
        for (Class<?> c : classes) {
            int type = c.getModifiers();
            if (c != RainBallot.class) {
                sound(Modifier.isStatic(type) && !Modifier.isPublic(type) && !Modifier.isProtected(type), c + " is inside");
            }
            int fields = 0;
            for (Field f : c.getDeclaredFields()) {
                if (!Modifier.isStatic(f.getModifiers())) fields++;
                else sound(Modifier.isFinal(f.getModifiers()) && f.getType() == int.class, f + " is a constant");
            }
            sound(fields <= 20, c + " has some twenty fields");
            for (Method m : c.getDeclaredMethods()) {
                sound(m.getParameterCount() <= 7, m + " takes at most seven");
                boolean hidden = Modifier.isPrivate(m.getModifiers());
                sound(!(hidden && names.contains(m.getName())), m + " bears the name of a public one");
            }
        }
    }

    private static void source() throws Exception {
        Path path = Path.of(System.getProperty("rain.source", "src/main/java/RainBallot.java"));
        String whole = Files.readString(path, StandardCharsets.UTF_8);
        String code = whole.replaceAll("(?s)/\\*.*?\\*/", "").replaceAll("//[^\n]*", "");
        String[] forbidden = {"\\b(throw|throws|try|catch|finally|synchronized|assert|import|package|volatile|native)\\b", "->",
            "::", "@", "\\b(equals|hashCode|toString|finalize)\\b", "\\b(Object|Class|Thread|Random|Scanner|Exception)\\b",
            "\\bSystem\\.(?!arraycopy\\b)", "\\bjava\\.", "\\w+Exact\\b"};
        for (String word : forbidden) {
            Matcher m = Pattern.compile(word).matcher(code);
            sound(!m.find(), "the source has " + word);
        }
        sound(whole.chars().allMatch(c -> c == '\n' || c >= 32 && c < 127), "the source holds plain signs alone");
        methodLengths(whole.split("\n"));
    }

    private static void methodLengths(String[] lines) {
        for (int from = 0; from < lines.length; from++) {
            Matcher head = Pattern.compile("( {4}| {8})(private|public) .*\\(.*\\) \\{").matcher(lines[from]);
            if (!head.matches()) continue;
            int to = from;
            while (to < lines.length && !lines[to].equals(head.group(1) + "}")) to++;
            sound(to - from < 60, "the method of line " + (from + 1) + " is short");
        }
    }

    public static void main(String[] args) throws Exception {
        face();
        source();
        System.out.println(wrong == 0 ? "the face is as due" : wrong + " are not as due");
        if (wrong != 0) System.exit(1);
    }
}
