import java.lang.management.ManagementFactory;
import java.lang.reflect.Array;
import java.lang.reflect.Executable;
import java.lang.reflect.Field;
import java.lang.reflect.Modifier;
import java.nio.file.Files;
import java.nio.file.Path;
import java.util.ArrayList;
import java.util.IdentityHashMap;
import java.util.List;
import java.util.Map;
import java.util.Set;
import java.util.TreeSet;
import java.util.regex.Matcher;
import java.util.regex.Pattern;

/** What can be counted of LANGUAGE.md's rules, and of the room that all calls of one run live in. */
public final class LanguageTest {
    private static final Path SOURCE = Path.of("src/main/java/TokenFrames.java");
    private static final int MOST_CLASSES = 12;
    private static final int MOST_FIELDS = 20;
    private static final int MOST_PARAMETERS = 7;
    private static final int MOST_LINES = 60;
    /** Far below the room of 7.3 million, since all is made with the object and used again. */
    private static final int MOST_ELEMENTS = 100_000;

    private final Checks checks = new Checks("the language");

    public static void main(String[] args) throws Exception {
        LanguageTest test = new LanguageTest();
        test.wordsOfTheSource();
        test.libraryOfTheSource();
        test.linesOfTheMethods();
        test.classesAndMembers();
        test.elementsOfAnObject();
        test.noCallMakesAnObject();
        test.checks.end();
    }

    private static String source() throws Exception {
        return Files.readString(SOURCE).replaceAll("(?s)/\\*.*?\\*/", "").replaceAll("//.*", "");
    }

    /** Rules 2, 6 and 12; the document names no exception, so that none is thrown or caught. */
    private void wordsOfTheSource() throws Exception {
        String source = source();
        for (String word : List.of("throw", "try", "catch", "finally", "assert", "synchronized", "package")) {
            checks.isTrue("no " + word, !Pattern.compile("\\b" + word + "\\b").matcher(source).find());
        }
        checks.isTrue("no lambda and no method reference", !source.contains("->") && !source.contains("::"));
        checks.isTrue("no static initialiser", !Pattern.compile("static\\s*\\{").matcher(source).find());
    }

    /** Rule 4. */
    private void libraryOfTheSource() throws Exception {
        Set<String> used = new TreeSet<>();
        Matcher uses = Pattern.compile("\\bimport [^;]+|\\b(?:Math|System|Arrays|Integer|Long|String)\\.\\w+")
                .matcher(source());
        while (uses.find()) {
            used.add(uses.group());
        }
        checks.same("the library", used,
                new TreeSet<>(List.of(
                        "import java.util.Arrays", "Arrays.fill", "Math.max", "Math.min", "System.arraycopy")));
    }

    /** Rule 11: from a line that opens a method to the one that closes it, which is indented alike. */
    private void linesOfTheMethods() throws Exception {
        Pattern opening = Pattern.compile("( +)[\\w<>\\[\\] ]+\\([^;]*\\) \\{");
        List<String> lines = Files.readAllLines(SOURCE);
        int methods = 0;
        for (int i = 0; i < lines.size(); i++) {
            Matcher opens = opening.matcher(lines.get(i));
            if (opens.matches() && !lines.get(i).matches(" +(if|for|while|switch) .*")) {
                int end = lines.subList(i, lines.size()).indexOf(opens.group(1) + "}");
                checks.isTrue(lines.get(i) + " has at most 60 lines", end >= 0 && end < MOST_LINES);
                methods++;
            }
        }
        checks.isTrue("there are methods", methods > TokenFrames.class.getDeclaredMethods().length);
    }

    /** Rules 1, 5 and 11. */
    private void classesAndMembers() {
        List<Class<?>> classes = new ArrayList<>(List.of(TokenFrames.class.getDeclaredClasses()));
        classes.add(TokenFrames.class);
        checks.isTrue("at most 12 classes", classes.size() <= MOST_CLASSES);
        for (Class<?> each : classes) {
            checks.isTrue(each + " has at most 20 fields", fieldsOf(each) <= MOST_FIELDS);
            List<Executable> members = new ArrayList<>(List.of(each.getDeclaredMethods()));
            members.addAll(List.of(each.getDeclaredConstructors()));
            for (Executable member : members) {
                checks.isTrue(member + " has at most 7 parameters", member.getParameterCount() <= MOST_PARAMETERS);
                checks.isTrue(member + " bears no name of the face",
                        !isPrivate(member) || !isOfTheFace(member.getName()));
            }
        }
    }

    private int fieldsOf(Class<?> each) {
        int fields = 0;
        for (Field field : each.getDeclaredFields()) {
            boolean isStatic = Modifier.isStatic(field.getModifiers());
            fields += isStatic ? 0 : 1;
            checks.isTrue(field + " is a constant or no static one",
                    !isStatic || Modifier.isFinal(field.getModifiers()) && field.getType() == int.class);
        }
        return fields;
    }

    private static boolean isPrivate(Executable member) {
        return Modifier.isPrivate(member.getModifiers());
    }

    private static boolean isOfTheFace(String name) {
        return List.of(TokenFrames.class.getMethods()).stream()
                .anyMatch(method -> method.getDeclaringClass() == TokenFrames.class && method.getName().equals(name));
    }

    /** All that an object holds, counted by its arrays and fields. */
    private void elementsOfAnObject() throws Exception {
        Map<Object, Integer> elements = new IdentityHashMap<>();
        count(new TokenFrames(), elements);
        int sum = elements.values().stream().mapToInt(Integer::intValue).sum();
        checks.isTrue(sum + " elements are few", sum < MOST_ELEMENTS);
        checks.isTrue("the rows are among them", sum > 3 * 8000);
    }

    private static void count(Object part, Map<Object, Integer> elements) throws Exception {
        if (part == null || elements.containsKey(part)) {
            return;
        }
        if (part.getClass().isArray()) {
            elements.put(part, Array.getLength(part));
            return;
        }
        int fields = 0;
        elements.put(part, fields);
        for (Field field : part.getClass().getDeclaredFields()) {
            if (!Modifier.isStatic(field.getModifiers())) {
                fields++;
                field.setAccessible(true);
                if (!field.getType().isPrimitive()) {
                    count(field.get(part), elements);
                }
            }
        }
        elements.put(part, fields);
    }

    /** Measured by the Java machine; the first measures are thrown away, since they load what they need. */
    private void noCallMakesAnObject() {
        TokenFrames x = new TokenFrames();
        made(x, 0);
        made(x, 1);
        long byNone = made(x, 0);
        long byCalls = made(x, 20);
        checks.isTrue(byCalls + " bytes made by calls, " + byNone + " by none", byCalls <= byNone);
    }

    private static long made(TokenFrames x, int times) {
        com.sun.management.ThreadMXBean threads =
                (com.sun.management.ThreadMXBean) ManagementFactory.getThreadMXBean();
        long before = threads.getCurrentThreadAllocatedBytes();
        for (int i = 0; i < times; i++) {
            everyCall(x);
        }
        return threads.getCurrentThreadAllocatedBytes() - before;
    }

    private static void everyCall(TokenFrames x) {
        x.clear();
        x.write(0x0102030405060708L, 8);
        x.again(8, 3);
        x.remember();
        x.write(0x0102030405060709L, 8);
        x.again(7, 20);
        x.block(3);
        x.turn();
        x.unblock(8000);
        x.turn();
        x.frame(125, 4, 7, 50, 1);
        x.turn();
        x.unframe(8000);
        x.unframe(10);
        x.place();
        x.sum();
        x.byteAt(x.size() - 1);
    }
}
