import java.io.IOException;
import java.lang.reflect.Field;
import java.lang.reflect.Member;
import java.lang.reflect.Method;
import java.lang.reflect.Modifier;
import java.nio.charset.StandardCharsets;
import java.nio.file.Files;
import java.nio.file.Path;
import java.util.ArrayList;
import java.util.Arrays;
import java.util.List;
import java.util.Map;
import java.util.Set;
import java.util.TreeMap;
import java.util.TreeSet;
import java.util.regex.Matcher;
import java.util.regex.Pattern;

/** The face of the class, and those rules of its language that can be seen from its members and its words. */
public final class FaceTest {
    private static final Path PROGRAM = Path.of("src/main/java/MostRooms.java");
    private static final Set<String> FACE = new TreeSet<>(List.of(
        "row(int,int,int)", "set(int,int,int)", "copy(int,int,int,int,int)", "drop(int)", "feed(long,int)",
        "house()", "fault()", "bell()", "bells(int,int,int)", "door(int,int,int)", "heads(int,int)", "undo()",
        "crowd(int,int)", "room(int,int)", "ahead(int,int)", "roomAhead(int,int,int)", "rest(int)",
        "hired(int,int,int)", "empty(int,int,int)", "apart(int,int,int)", "began(int,int)", "image(int)",
        "restore(int)", "kind(int)", "as(int,int)", "ask(int,int)", "trace(int)", "count(int)", "status()"));
    private static final int FIELDS_MOST = 20, CLASSES_MOST = 12, PARAMETERS_MOST = 7, LINES_MOST = 60;
    private static final int CALLS_MOST = 8;

    private int wrong = 0;

    public static void main(String[] args) throws IOException {
        FaceTest t = new FaceTest();
        t.constants();
        t.outerMembers();
        t.innerClasses();
        t.words();
        t.methodLengths();
        t.callDepths();
        System.out.println(t.wrong == 0 ? "the face is as told" : t.wrong + " faults of the face");
        if (t.wrong != 0) {
            System.exit(1);
        }
    }

    private void look(boolean fine, String told) {
        if (!fine) {
            wrong++;
            System.out.println(told);
        }
    }

    private void constants() {
        look(MostRooms.NONE == -1000000, "NONE");
        look(MostRooms.BAD == -1000001, "BAD");
        look(MostRooms.STATE == -1000002, "STATE");
        look(MostRooms.FULL == -1000003, "FULL");
    }

    private static boolean isPrivate(Member m) {
        return Modifier.isPrivate(m.getModifiers());
    }

    private static String told(Method m) {
        StringBuilder s = new StringBuilder(m.getName()).append('(');
        for (Class<?> c : m.getParameterTypes()) {
            s.append(s.charAt(s.length() - 1) == '(' ? "" : ",").append(c.getName());
        }
        return s.append(')').toString();
    }

    private void outerMembers() {
        Class<?> c = MostRooms.class;
        look(Modifier.isPublic(c.getModifiers()) && Modifier.isFinal(c.getModifiers()), "not public and final");
        look(c.getDeclaredConstructors().length == 1 && c.getConstructors().length == 1
            && c.getConstructors()[0].getParameterCount() == 0, "constructors");
        Set<String> open = new TreeSet<>();
        Set<String> names = new TreeSet<>();
        for (Method m : c.getDeclaredMethods()) {
            if (!isPrivate(m)) {
                open.add(told(m));
                names.add(m.getName());
                look(Modifier.isPublic(m.getModifiers()) && !Modifier.isStatic(m.getModifiers())
                    && m.getReturnType() == int.class, told(m) + " is not as told");
            }
        }
        look(open.equals(FACE), "the methods are " + open);
        for (Method m : c.getDeclaredMethods()) {
            look(!isPrivate(m) || !names.contains(m.getName()), "a private method bears a public name: " + told(m));
        }
        Set<String> openFields = new TreeSet<>();
        for (Field f : c.getDeclaredFields()) {
            if (!isPrivate(f)) {
                openFields.add(f.getName());
            }
        }
        look(openFields.equals(Set.of("NONE", "BAD", "STATE", "FULL")), "the fields are " + openFields);
        fields(c);
    }

    private void fields(Class<?> c) {
        int n = 0;
        for (Field f : c.getDeclaredFields()) {
            boolean constant = Modifier.isStatic(f.getModifiers());
            n += constant ? 0 : 1;
            look(!constant || Modifier.isFinal(f.getModifiers()), "a static field that is not final: " + f);
        }
        look(n <= FIELDS_MOST, c + " has " + n + " fields");
        for (Method m : c.getDeclaredMethods()) {
            look(m.getParameterCount() <= PARAMETERS_MOST, told(m) + " has too many parameters");
            look(!m.isSynthetic(), told(m) + " is made by a lambda or the like");
        }
    }

    private void innerClasses() {
        Class<?>[] all = MostRooms.class.getDeclaredClasses();
        look(all.length < CLASSES_MOST, all.length + " classes");
        for (Class<?> c : all) {
            look(Modifier.isStatic(c.getModifiers()) && !Modifier.isPublic(c.getModifiers())
                && !Modifier.isProtected(c.getModifiers()), c + " is not as told");
            look(c.getDeclaredClasses().length == 0, c + " has classes");
            fields(c);
        }
    }

    private static String withoutComments(String source) {
        return source.replaceAll("(?s)/\\*.*?\\*/", "").replaceAll("//[^\n]*", "");
    }

    private void words() throws IOException {
        String source = Files.readString(PROGRAM, StandardCharsets.UTF_8);
        for (int i = 0; i < source.length(); i++) {
            look(source.charAt(i) < 127, "a sign beyond 126 at " + i);
        }
        String code = withoutComments(source);
        for (String word : Arrays.asList("throw", "throws", "try", "catch", "finally", "synchronized", "assert",
            "import", "package", "protected", "volatile", "native", "hashCode", "toString", "var", "default void")) {
            look(!Pattern.compile("\\b" + word + "\\b").matcher(code).find(), "the word " + word);
        }
        look(!code.contains("->"), "an arrow");
        look(!code.contains("::"), "a method reference");
        Matcher library = Pattern.compile("\\b(System|Math|Integer|Long|Arrays)\\s*\\.\\s*(\\w+)").matcher(code);
        while (library.find()) {
            look(Set.of("System.arraycopy", "Math.min", "Math.max").contains(library.group(1) + "." + library.group(2)),
                "the library's " + library.group());
        }
    }

    /** A method's first line stands at four or eight blanks and ends in a brace; its last is that brace alone. */
    private void methodLengths() throws IOException {
        List<String> lines = Files.readAllLines(PROGRAM, StandardCharsets.UTF_8);
        for (int i = 0; i < lines.size(); i++) {
            Matcher head = Pattern.compile("( {4}| {8})\\S.*\\) \\{").matcher(lines.get(i));
            if (head.matches()) {
                int end = i;
                while (end < lines.size() && !lines.get(end).equals(head.group(1) + "}")) {
                    end++;
                }
                look(end - i < LINES_MOST, "a long method at line " + (i + 1));
            }
        }
    }

    /** By each method's name what its lines call; methods of one name are taken together. */
    private static Map<String, Set<String>> calls() throws IOException {
        String code = withoutComments(Files.readString(PROGRAM, StandardCharsets.UTF_8));
        Map<String, String> bodies = new TreeMap<>();
        Matcher method = Pattern.compile("(?m)^( {4}| {8})(?! )[\\w\\[\\] ]*?\\b(\\w+)\\([^()]*\\) \\{$").matcher(code);
        while (method.find()) {
            int end = code.indexOf("\n" + method.group(1) + "}", method.end());
            bodies.merge(method.group(2), code.substring(method.end(), end), String::concat);
        }
        Map<String, Set<String>> calls = new TreeMap<>();
        for (String name : bodies.keySet()) {
            Set<String> called = new TreeSet<>();
            Matcher call = Pattern.compile("\\b(\\w+)\\(").matcher(bodies.get(name));
            while (call.find()) {
                if (bodies.containsKey(call.group(1))) {
                    called.add(call.group(1));
                }
            }
            calls.put(name, called);
        }
        return calls;
    }

    /** The names of the longest chain of calls from a method on, in which none stands twice. */
    private static List<String> chain(Map<String, Set<String>> calls, List<String> open, String name) {
        List<String> now = new ArrayList<>(open);
        now.add(name);
        List<String> longest = now;
        for (String next : calls.get(name)) {
            List<String> one = now.contains(next) ? now : chain(calls, now, next);
            longest = one.size() > longest.size() ? one : longest;
        }
        return longest;
    }

    private void callDepths() throws IOException {
        Map<String, Set<String>> calls = calls();
        for (String head : FACE) {
            String name = head.substring(0, head.indexOf('('));
            look(calls.containsKey(name), "not found among the lines: " + name);
            if (calls.containsKey(name)) {
                List<String> chain = chain(calls, List.of(), name);
                look(chain.size() <= CALLS_MOST, "calls go too deep: " + chain);
            }
        }
    }
}
