import java.io.IOException;
import java.lang.reflect.Constructor;
import java.lang.reflect.Field;
import java.lang.reflect.Method;
import java.lang.reflect.Modifier;
import java.nio.file.Files;
import java.nio.file.Path;
import java.util.ArrayList;
import java.util.Arrays;
import java.util.List;
import java.util.Map;
import java.util.Set;
import java.util.TreeMap;
import java.util.TreeSet;
import java.util.regex.Matcher;
import java.util.regex.Pattern;

/** The face of the class, and the rules of LANGUAGE.md that a reader of its text can look at. */
public final class LanguageTest {
    private static final String[] FACE = {"ship/3", "as/2", "change/3", "has/3", "named/2", "one/2", "fleet/2", "day/1",
        "call/2", "leave/1", "of/2", "feed/1", "treaty/1", "says/2", "look/3", "told/2", "share/3", "risk/1", "board/3",
        "rest/2", "tired/2", "months/1", "banned/2", "lift/1", "were/2", "habit/1", "draw/2", "rate/0", "tell/1",
        "check/0", "count/1", "found/1"};
    private static final String[] RULED_OUT = {"throw", "throws", "try", "catch", "finally", "synchronized", "assert",
        "import", "package", "protected", "double", "float", "native", "volatile", "transient", "Exception", "Object",
        "System.in", "System.out", "System.err", "Thread", "Random", "equals", "hashCode", "Exact", "->", "::", "@"};

    private LanguageTest() {
    }

    public static void main(String[] args) throws IOException {
        face();
        names();
        members();
        text();
        Due.close("LanguageTest");
    }

    private static void face() {
        Class<?> c = PortLook.class;
        Due.holds("public and final", Modifier.isPublic(c.getModifiers()) && Modifier.isFinal(c.getModifiers()));
        Set<String> due = new TreeSet<>(Set.of(FACE));
        Set<String> open = new TreeSet<>();
        for (Method m : c.getDeclaredMethods()) {
            if (Modifier.isPrivate(m.getModifiers())) {
                continue;
            }
            open.add(m.getName() + "/" + m.getParameterCount());
            boolean ints = m.getReturnType() == int.class;
            for (Class<?> p : m.getParameterTypes()) {
                ints &= p == int.class;
            }
            Due.holds("public, of ints: " + m, ints && m.getModifiers() == Modifier.PUBLIC);
        }
        Due.holds("the methods " + open + " are those of the face", open.equals(due));
        Constructor<?>[] made = c.getDeclaredConstructors();
        Due.holds("one public constructor without arguments",
            made.length == 1 && made[0].getParameterCount() == 0 && made[0].getModifiers() == Modifier.PUBLIC);
        for (Field f : c.getDeclaredFields()) {
            Due.holds("private: " + f, Modifier.isPrivate(f.getModifiers()));
        }
    }

    private static void names() {
        Set<String> open = new TreeSet<>();
        for (String f : FACE) {
            open.add(f.substring(0, f.indexOf('/')));
        }
        for (Method m : PortLook.class.getDeclaredMethods()) {
            Due.holds("bears a public one's name: " + m,
                !Modifier.isPrivate(m.getModifiers()) || !open.contains(m.getName()));
        }
        for (Class<?> inside : PortLook.class.getDeclaredClasses()) {
            for (Method m : inside.getDeclaredMethods()) {
                Due.holds("bears a public one's name: " + m, !open.contains(m.getName()));
            }
        }
    }

    private static void members() {
        Class<?>[] inside = PortLook.class.getDeclaredClasses();
        Due.holds("some twelve classes", inside.length <= 12);
        Due.holds("some twenty fields", ownFields(PortLook.class) <= 20);
        for (Class<?> c : inside) {
            int m = c.getModifiers();
            Due.holds("static and not public: " + c,
                Modifier.isStatic(m) && !Modifier.isPublic(m) && !Modifier.isProtected(m));
            Due.holds("some twenty fields: " + c, ownFields(c) <= 20);
            Due.holds("no class inside: " + c, c.getDeclaredClasses().length == 0);
        }
    }

    private static int ownFields(Class<?> c) {
        int n = 0;
        for (Field f : c.getDeclaredFields()) {
            Due.holds("a static field is final: " + f,
                !Modifier.isStatic(f.getModifiers()) || Modifier.isFinal(f.getModifiers()));
            n += Modifier.isStatic(f.getModifiers()) ? 0 : 1;
        }
        return n;
    }

    private static void text() throws IOException {
        String text = Files.readString(Path.of("src/main/java/PortLook.java"));
        for (int i = 0; i < text.length(); i++) {
            char c = text.charAt(i);
            if (c != '\n' && (c < 32 || c > 126)) {
                Due.holds("a plain sign at " + i, false);
            }
        }
        String code = text.replaceAll("(?s)/\\*.*?\\*/", "").replaceAll("//[^\n]*", "");
        for (String word : RULED_OUT) {
            boolean plain = Character.isLetter(word.charAt(0));
            Matcher m = Pattern.compile(plain ? "\\b" + Pattern.quote(word) + "\\b" : Pattern.quote(word)).matcher(code);
            Due.holds("without " + word, !m.find());
        }
        longMethods(code);
    }

    /** A method begins at an indented line with a brace behind its arguments, and ends at a brace as far in. */
    private static void longMethods(String code) {
        String[] lines = code.split("\n");
        Pattern head = Pattern.compile("^(    |        )(?! )(?!if|for|while|switch).*?(\\w+)\\(.*\\) \\{$");
        Map<String, String> bodies = new TreeMap<>();
        for (int i = 0; i < lines.length; i++) {
            Matcher m = head.matcher(lines[i]);
            if (!m.find()) {
                continue;
            }
            int end = i;
            while (end < lines.length && !lines[end].equals(m.group(1) + "}")) {
                end++;
            }
            Due.holds("sixty lines at most: " + lines[i].trim(), end - i < 60);
            Due.holds("seven parameters at most: " + lines[i].trim(), lines[i].split(",").length <= 7);
            String body = String.join("\n", Arrays.asList(lines).subList(i + 1, Math.min(end, lines.length)));
            bodies.merge(m.group(2), body, String::concat);
        }
        Due.holds("methods are found in the text", bodies.keySet().containsAll(Set.of("ship", "found", "PortLook")));
        for (String name : bodies.keySet()) {
            int deep = depth(name, bodies, new ArrayList<>());
            Due.holds("calls at most eight deep, from " + name + " " + deep, deep <= 8);
        }
    }

    /** Methods of one name are taken as one, so this may be more than it is, but no less. */
    private static int depth(String name, Map<String, String> bodies, List<String> open) {
        if (open.contains(name)) {
            return 0;
        }
        open.add(name);
        int below = 0;
        Matcher m = Pattern.compile("\\b(\\w+)\\(").matcher(bodies.get(name));
        while (m.find()) {
            if (bodies.containsKey(m.group(1))) {
                below = Math.max(below, depth(m.group(1), bodies, open));
            }
        }
        open.remove(name);
        return below + 1;
    }
}
