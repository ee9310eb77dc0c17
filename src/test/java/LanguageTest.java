import java.io.IOException;
import java.lang.reflect.Field;
import java.lang.reflect.Method;
import java.lang.reflect.Modifier;
import java.nio.file.Files;
import java.nio.file.Path;
import java.util.List;
import java.util.Set;
import java.util.TreeSet;
import java.util.regex.Matcher;
import java.util.regex.Pattern;

/** What a machine can see of ../shared/LANGUAGE.md: the face, and words that do not belong into the program. */
public final class LanguageTest {
    private static final String FACE = """
        sheet(int,int,int)int set(int,int,int)int copy(int,int,int,int,int)int drop(int)int feed(long,int)int
        pattern()int fault()int sign(int,int)int compare(int,int)int test(int,int,int,int)int move(int,int)int
        flow(int)int kind(int)int as(int,int)int ask(int,int)int trace(int)int seat(int,int)int dead(int)int
        law(int,int)int chip(int,int)int told(int,int)int share(int,int)int mean()long order()long
        edge(int,int,int,int)int die(int,int,int,int)int odd(int,int,int)int join(int,int,int)int best(int)int
        lot()int bins(int)int held(int,int)int chance(int,int)long count(int)int status()int""";
    private static final List<String> WORDS = List.of("throw", "throws", "try", "catch", "finally", "synchronized",
        "assert", "hashCode", "toString", "Random", "System\\.(?!arraycopy)", "Thread", "Object", "String", "->", "::",
        "volatile", "native", "transient", "protected", "import (?!java\\.util\\.Arrays;)", "package", "static \\{");
    private static final Check check = new Check("LanguageTest");

    public static void main(String[] args) throws IOException {
        rule1Face();
        rule2Classes();
        rule5StaticFields();
        rules4And6Words();
        rule11MethodsAreShort();
        rule12Made();
        check.end();
    }

    private static void rule1Face() {
        Set<String> due = new TreeSet<>(List.of(FACE.trim().split("\\s+")));
        Set<String> found = new TreeSet<>();
        Set<String> names = new TreeSet<>();
        for (Method m : TestFloor.class.getDeclaredMethods()) {
            if (Modifier.isPublic(m.getModifiers())) {
                StringBuilder text = new StringBuilder(m.getName()).append('(');
                for (Class<?> type : m.getParameterTypes()) {
                    text.append(text.charAt(text.length() - 1) == '(' ? "" : ",").append(type);
                }
                found.add(text.append(')').append(m.getReturnType()).toString());
                names.add(m.getName());
            }
        }
        if (!found.equals(due)) {
            System.out.println("due " + due + "\nfound " + found);
        }
        check.due("the face is the document's", found.equals(due) ? 1 : 0, 1);
        for (Method m : TestFloor.class.getDeclaredMethods()) {
            boolean isFace = Modifier.isPublic(m.getModifiers());
            check.due(m + " is private, or of the face", isFace || Modifier.isPrivate(m.getModifiers()) ? 1 : 0, 1);
            check.due(m + " has a name of its own", isFace || !names.contains(m.getName()) ? 1 : 0, 1);
            check.due(m + " has at most seven parameters", m.getParameterCount() <= 7 ? 1 : 0, 1);
        }
        for (Field f : TestFloor.class.getDeclaredFields()) {
            boolean isFace = Set.of("NONE", "BAD", "STATE", "FULL").contains(f.getName());
            check.due(f + " is of the face", Modifier.isPublic(f.getModifiers()) ? 1 : 0, isFace ? 1 : 0);
            check.due(f + " is private", Modifier.isPrivate(f.getModifiers()) ? 1 : 0, isFace ? 0 : 1);
        }
        check.due("constructors", TestFloor.class.getDeclaredConstructors().length, 1);
    }

    private static void rule2Classes() {
        Class<?>[] inside = TestFloor.class.getDeclaredClasses();
        check.due("at most twelve classes", inside.length < 12 ? 1 : 0, 1);
        for (Class<?> c : inside) {
            check.due(c + " is static", Modifier.isStatic(c.getModifiers()) ? 1 : 0, 1);
            check.due(c + " is private", Modifier.isPrivate(c.getModifiers()) ? 1 : 0, 1);
            check.due(c + " has at most twenty fields", c.getDeclaredFields().length <= 20 ? 1 : 0, 1);
        }
    }

    private static void rule5StaticFields() {
        int ofObjects = 0;
        for (Field f : TestFloor.class.getDeclaredFields()) {
            if (Modifier.isStatic(f.getModifiers())) {
                check.due(f + " is final", Modifier.isFinal(f.getModifiers()) ? 1 : 0, 1);
            } else {
                ofObjects++;
            }
        }
        check.due("at most twenty fields", ofObjects <= 20 ? 1 : 0, 1);
    }

    private static List<String> sourceWithoutComments() throws IOException {
        String text = Files.readString(Path.of("src/main/java/TestFloor.java"));
        return text.replaceAll("(?s)/\\*.*?\\*/", "").replaceAll("//.*", "").lines().toList();
    }

    private static void rules4And6Words() throws IOException {
        for (String line : sourceWithoutComments()) {
            for (String word : WORDS) {
                Matcher m = Pattern.compile(Character.isLetter(word.charAt(0)) ? "\\b" + word : word).matcher(line);
                boolean isThere = m.find() && (m.end() == line.length() || !Character.isLetter(line.charAt(m.end())));
                check.due("'" + word + "' in: " + line, isThere ? 1 : 0, 0);
            }
        }
    }

    /** A method begins with a line at the depth of the members of its class, and ends with a bracket just below it. */
    private static void rule11MethodsAreShort() throws IOException {
        Pattern begin = Pattern.compile("^( {4}| {8})[A-Za-z].*\\(.*\\) \\{$");
        List<String> lines = Files.readAllLines(Path.of("src/main/java/TestFloor.java"));
        int methods = 0;
        for (int i = 0; i < lines.size(); i++) {
            Matcher m = begin.matcher(lines.get(i));
            boolean isBegin = m.matches() && !lines.get(i).matches(" *(if|for|while|switch)\\b.*");
            if (isBegin) {
                int length = lines.subList(i, lines.size()).indexOf(m.group(1) + "}") + 1;
                check.due("at most sixty lines: " + lines.get(i), length > 0 && length <= 60 ? 1 : 0, 1);
                methods++;
            }
        }
        check.due("the methods and the constructor of the face, at least, are seen", methods >= 36 ? 1 : 0, 1);
    }

    /** All that is made is made with the object: so no run of calls can fill the room. */
    private static void rule12Made() throws IOException {
        Pattern field = Pattern.compile("^ {4,8}(private )?(final )?[A-Za-z]+(\\[\\])? \\w+ = new [A-Za-z]+[\\[(].*;$");
        for (String line : sourceWithoutComments()) {
            if (line.contains("new ")) {
                check.due("made as a field: " + line, field.matcher(line).matches() ? 1 : 0, 1);
            }
        }
    }
}
