import java.io.IOException;
import java.lang.reflect.Constructor;
import java.lang.reflect.Field;
import java.lang.reflect.Method;
import java.lang.reflect.Modifier;
import java.nio.file.Files;
import java.nio.file.Path;
import java.util.ArrayList;
import java.util.List;
import java.util.Set;
import java.util.TreeSet;
import java.util.regex.Matcher;
import java.util.regex.Pattern;

/** The face of the document, and those rules of LANGUAGE.md that can be seen from outside or in the text. */
public final class FaceTest {
    private static final Path SOURCE = Path.of("src/main/java/VisitBooking.java");
    private static final Path DOCUMENT = Path.of("../shared/DOC.md");
    private static final int CALLS = 512;
    // The calls make nothing but their exceptions; this is what the desk itself takes, and some more.
    private static final long MOST_BYTES = 200_000L;

    public static void main(String[] args) throws IOException {
        face();
        members();
        names();
        text();
        room();
        Check.end();
    }

    /** Each line of the face, written as the document writes it. */
    private static void face() throws IOException {
        String document = Files.readString(DOCUMENT);
        String block = document.substring(document.indexOf("```java") + 7);
        block = block.substring(0, block.indexOf("```"));
        Set<String> want = new TreeSet<>();
        for (String line : block.split("\n")) {
            if (line.startsWith("    public ")) {
                want.add(line.trim().replace(";", ""));
            }
        }
        Check.isTrue("the document has 34 methods and a constructor", want.size() == 35);
        String source = Files.readString(SOURCE).replaceAll("\\s+", " ");
        for (String line : want) {
            Check.isTrue("the source has " + line, source.contains(line + " {"));
        }
        Set<String> got = new TreeSet<>();
        for (Method method : VisitBooking.class.getDeclaredMethods()) {
            if (Modifier.isPublic(method.getModifiers())) {
                got.add(method.getName());
            }
        }
        Check.isTrue("34 public methods", got.size() == 34);
    }

    private static void members() {
        Class<?> face = VisitBooking.class;
        Check.isTrue("public and final", Modifier.isPublic(face.getModifiers())
                && Modifier.isFinal(face.getModifiers()) && face.getPackageName().isEmpty());
        Constructor<?>[] constructors = face.getDeclaredConstructors();
        Check.isTrue("one constructor", constructors.length == 1);
        Check.isTrue("a public one", Modifier.isPublic(constructors[0].getModifiers()));
        for (Field field : face.getDeclaredFields()) {
            Check.isTrue(field.getName() + " is private", Modifier.isPrivate(field.getModifiers()));
            Check.isTrue(field.getName() + " is no changing static field",
                    !Modifier.isStatic(field.getModifiers()) || Modifier.isFinal(field.getModifiers()));
        }
        for (Method method : face.getDeclaredMethods()) {
            int kind = method.getModifiers();
            Check.isTrue(method.getName() + " is public or private",
                    Modifier.isPublic(kind) || Modifier.isPrivate(kind));
            Check.isTrue(method.getName() + " is no public static method",
                    !Modifier.isPublic(kind) || !Modifier.isStatic(kind));
            Check.isTrue(method.getName() + " has at most 7 parameters", method.getParameterCount() <= 7);
        }
        Check.isTrue("at most 12 classes", face.getDeclaredClasses().length < 12);
        for (Class<?> inside : face.getDeclaredClasses()) {
            Check.isTrue(inside + " is private and static", Modifier.isPrivate(inside.getModifiers())
                    && Modifier.isStatic(inside.getModifiers()));
        }
    }

    private static void names() {
        Set<String> open = new TreeSet<>();
        List<Method> others = new ArrayList<>();
        for (Method method : VisitBooking.class.getDeclaredMethods()) {
            if (Modifier.isPublic(method.getModifiers())) {
                open.add(method.getName());
            } else {
                others.add(method);
            }
        }
        for (Class<?> inside : VisitBooking.class.getDeclaredClasses()) {
            others.addAll(List.of(inside.getDeclaredMethods()));
        }
        for (Method method : others) {
            Check.isTrue(method + " bears no name of the face", !open.contains(method.getName()));
            Check.isTrue(method + " has at most 7 parameters", method.getParameterCount() <= 7);
        }
    }

    private static void text() throws IOException {
        String source = Files.readString(SOURCE);
        for (int place = 0; place < source.length(); place++) {
            char sign = source.charAt(place);
            if (sign > 127) {
                Check.isTrue("no sign above 127, as at " + place, false);
            }
        }
        String code = source.replaceAll("/\\*(?s:.*?)\\*/", "").replaceAll("//.*", "").replaceAll("\"[^\"]*\"", "\"\"");
        String[] words = {"catch", "try", "finally", "synchronized", "assert", "->", "::", "package", "native",
            "String", "Object", "System.out", "Random", "Thread", "instanceof", "Exact", "Math."};
        for (String word : words) {
            Check.isTrue("no " + word, !code.contains(word));
        }
        Matcher imports = Pattern.compile("import ([^;]*);").matcher(code);
        while (imports.find()) {
            String name = imports.group(1);
            Check.isTrue("no import of " + name,
                    name.equals("java.util.Arrays") || name.equals("java.util.NoSuchElementException"));
        }
        Matcher thrown = Pattern.compile("throw new (\\w+)\\(").matcher(code);
        while (thrown.find()) {
            Check.isTrue("may throw " + thrown.group(1), Set.of("IllegalStateException", "IllegalArgumentException",
                    "IndexOutOfBoundsException", "ArithmeticException", "UnsupportedOperationException",
                    "NoSuchElementException").contains(thrown.group(1)));
        }
        lengths(source);
    }

    /** No method is longer than sixty lines; a method ends with the brace that stands as far left as its head. */
    private static void lengths(String source) {
        String[] lines = source.split("\n");
        for (int start = 0; start < lines.length; start++) {
            Matcher head = Pattern.compile("^( +)[\\w\\[\\]. ]+\\(.*").matcher(lines[start]);
            if (!head.matches() || head.group(1).length() % 4 != 0 || head.group(1).length() > 8) {
                continue;
            }
            int end = start;
            while (end < lines.length && !lines[end].equals(head.group(1) + "}") && !lines[end].endsWith(";")) {
                end++;
            }
            while (end < lines.length && !lines[end].equals(head.group(1) + "}")) {
                end++;
            }
            Check.isTrue(lines[start].trim() + " is short", end - start <= 60 || head.group(1).length() > 8);
        }
    }

    /** What 512 of the dearest calls make, all in one room. */
    private static void room() {
        com.sun.management.ThreadMXBean beans =
                (com.sun.management.ThreadMXBean) java.lang.management.ManagementFactory.getThreadMXBean();
        long thread = Thread.currentThread().getId();
        long before = beans.getThreadAllocatedBytes(thread);
        VisitBooking x = new VisitBooking();
        x.addInmate(0, 2);
        x.addInmate(0, 2);
        x.addVisitor(2);
        x.addVisitor(0);
        x.addRoom(0, 1, true);
        x.set(2, 0);
        for (int day = 0; day < 55; day++) {
            x.book(day % 2, 1, day, 0);
        }
        for (int k = 0; k < 6; k++) {
            x.wish(k % 2, 2, 0, 55);
        }
        for (int k = 0; k < CALLS; k++) {
            x.setOpen(0, k % 2 == 0);
            x.move(k % 2, k % 4);
            x.save();
            x.refusal(0, 1, 55, 3);
            x.undo();
            x.undo();
        }
        long made = beans.getThreadAllocatedBytes(thread) - before;
        System.out.println("bytes made: " + made);
        Check.isTrue("few bytes, not " + made, made < MOST_BYTES);
    }
}
