import java.io.IOException;
import java.lang.reflect.Constructor;
import java.lang.reflect.Field;
import java.lang.reflect.Method;
import java.lang.reflect.Modifier;
import java.nio.file.Files;
import java.nio.file.Path;
import java.util.ArrayList;
import java.util.List;
import java.util.Set;
import java.util.TreeSet;

/** The face is that of the document, no more and no less, and the source keeps to what can be seen of LANGUAGE.md. */
public final class FaceTest {
    private static final String[] FACE = {
        "public int place(int) throws IllegalArgumentException, IllegalStateException",
        "public int link(int, int, int) throws IndexOutOfBoundsException, IllegalArgumentException",
        "public int far(int, int) throws IndexOutOfBoundsException, NoSuchElementException",
        "public int setWind(int) throws IllegalArgumentException",
        "public int type(int) throws IllegalArgumentException, IllegalStateException",
        "public int wipe()",
        "public int vendor(int, int, int, int) throws IndexOutOfBoundsException, IllegalArgumentException, IllegalStateException",
        "public int setCry(int) throws IndexOutOfBoundsException, UnsupportedOperationException",
        "public int apart(int, int) throws IndexOutOfBoundsException, NoSuchElementException",
        "public int goTo(int, int, int) throws IndexOutOfBoundsException, IllegalArgumentException, UnsupportedOperationException",
        "public int at(int, int) throws IndexOutOfBoundsException, IllegalArgumentException",
        "public int setPrice(int, int) throws IndexOutOfBoundsException, IllegalArgumentException",
        "public int stock(int, int) throws IndexOutOfBoundsException, IllegalArgumentException, UnsupportedOperationException",
        "public boolean hush(int, boolean) throws IndexOutOfBoundsException",
        "public boolean setMelting(int, boolean) throws IllegalArgumentException",
        "public boolean isSilent(int) throws IndexOutOfBoundsException",
        "public int of(int, char) throws IndexOutOfBoundsException, IllegalArgumentException",
        "public int strength(int, int) throws IndexOutOfBoundsException",
        "public int window(int, int) throws IndexOutOfBoundsException, IllegalArgumentException, IllegalStateException",
        "public int want(int, int, int, int, int, int)"
            + " throws IndexOutOfBoundsException, IllegalArgumentException, IllegalStateException",
        "public boolean hears(int, int) throws IndexOutOfBoundsException",
        "public int fulfilled(int) throws IndexOutOfBoundsException",
        "public int owes(int, int) throws IndexOutOfBoundsException",
        "public int pay(int, int, int) throws IndexOutOfBoundsException, IllegalArgumentException, UnsupportedOperationException",
        "public int pass(int) throws IllegalArgumentException, IllegalStateException",
        "public int hour()",
        "public int day()",
        "public int sales()",
        "public int sale(int, char) throws IllegalArgumentException, NoSuchElementException",
        "public int setLimit(int, int) throws IllegalArgumentException",
        "public int permit(int, int, int, int)"
            + " throws IndexOutOfBoundsException, IllegalArgumentException, IllegalStateException",
        "public int raid(int) throws IndexOutOfBoundsException",
        "public int tape(int) throws IndexOutOfBoundsException, IllegalStateException",
        "public int length(int) throws IndexOutOfBoundsException",
        "public int wareAt(int, int) throws IndexOutOfBoundsException, NoSuchElementException",
        "public int differ(int, int) throws IndexOutOfBoundsException",
        "public int nearest(int) throws IndexOutOfBoundsException, NoSuchElementException",
        "public int freeCry(int) throws IndexOutOfBoundsException, NoSuchElementException",
        "public int bestPlace(int) throws IndexOutOfBoundsException",
        "public long checksum()",
        "public float silentShare() throws ArithmeticException",
        "public double meanPrice() throws ArithmeticException",
        "public boolean isSound()"};

    /** Whatever LANGUAGE.md leaves may be there; an answer by catching what the machine throws may not. */
    private static final String[] NOT_IN_THE_SOURCE = {"->", "::", "finally", "synchronized", "assert ", "static {",
        "protected ", "package ", "System.out", "System.err", "System.exit", "currentTime", "nanoTime", "random",
        "Thread", "java.io", "java.nio", "java.net", "Exact(", "ArrayIndexOutOfBounds", "StringIndexOutOfBounds",
        "NullPointer", "NegativeArraySize", "ArrayStore", "ClassCast", "catch (Exception", "catch (Throwable",
        "catch (RuntimeException"};

    private static final Set<String> IMPORTS = Set.of("java.util.NoSuchElementException", "java.util.ArrayList",
        "java.util.List", "java.util.Arrays", "java.util.Iterator");

    private static final int LONGEST_METHOD = 60;

    public static void main(String[] args) throws IOException {
        theFace();
        nothingElseToBeSeen();
        namesOfItsOwn();
        theSource();
        Script.finish("FaceTest");
    }

    private static void theFace() {
        Set<String> due = new TreeSet<>(List.of(FACE));
        Set<String> got = new TreeSet<>();
        for (Method method : Cryway.class.getDeclaredMethods()) {
            if (Modifier.isPublic(method.getModifiers())) {
                String text = method.toString().replace("Cryway.", "").replace("java.lang.", "").replace("java.util.", "");
                got.add(text.replace(",", ", "));
            }
        }
        Script.due("face", "public methods", got.toString(), due.toString());
        Script.due("face", "the class", Modifier.toString(Cryway.class.getModifiers()), "public final");
        Script.due("face", "its superclass", Cryway.class.getSuperclass().getName(), "java.lang.Object");
        Script.due("face", "its interfaces", "" + Cryway.class.getInterfaces().length, "0");
        Constructor<?>[] constructors = Cryway.class.getDeclaredConstructors();
        Script.due("face", "constructors", "" + constructors.length, "1");
        Script.due("face", "the constructor", constructors[0].toString(), "public Cryway()");
    }

    private static void nothingElseToBeSeen() {
        for (Method method : Cryway.class.getDeclaredMethods()) {
            boolean fine = Modifier.isPublic(method.getModifiers()) || Modifier.isPrivate(method.getModifiers());
            Script.due("rule 1", "seen from outside: " + method, "" + fine, "true");
        }
        for (Field field : Cryway.class.getDeclaredFields()) {
            boolean fine = Modifier.isPrivate(field.getModifiers()) && Modifier.isFinal(field.getModifiers())
                || Modifier.isPrivate(field.getModifiers()) && !Modifier.isStatic(field.getModifiers());
            Script.due("rules 1 and 5", "a field: " + field, "" + fine, "true");
        }
        for (Class<?> inside : Cryway.class.getDeclaredClasses()) {
            int modifiers = inside.getModifiers();
            boolean fine = Modifier.isStatic(modifiers) && !Modifier.isPublic(modifiers) && !Modifier.isProtected(modifiers);
            Script.due("rule 1", "a class inside: " + inside, "" + fine, "true");
        }
    }

    private static void namesOfItsOwn() {
        Set<String> names = new TreeSet<>();
        for (String line : FACE) {
            names.add(line.substring(line.lastIndexOf(' ', line.indexOf('(')) + 1, line.indexOf('(')));
        }
        List<Class<?>> all = new ArrayList<>(List.of(Cryway.class.getDeclaredClasses()));
        all.add(Cryway.class);
        for (Class<?> each : all) {
            for (Method method : each.getDeclaredMethods()) {
                boolean taken = !Modifier.isPublic(method.getModifiers()) && names.contains(method.getName());
                Script.due("rule 1", "the name of a public one: " + method, "" + taken, "false");
            }
        }
    }

    private static void theSource() throws IOException {
        String source = Files.readString(Path.of("src/main/java/Cryway.java"));
        for (String word : NOT_IN_THE_SOURCE) {
            Script.due("LANGUAGE.md", "the source has " + word, "" + source.contains(word), "false");
        }
        for (String line : source.split("\n")) {
            String wanted = line.startsWith("import ") ? line.substring("import ".length()).replace(";", "").trim() : null;
            Script.due("rule 4", "an import: " + line, "" + (wanted == null || IMPORTS.contains(wanted)), "true");
        }
        int begin = -1;
        String[] lines = source.split("\n");
        for (int i = 0; i < lines.length; i++) {
            if (lines[i].matches(" {4}( {4})?[a-zA-Z].*[({,]")) {
                begin = i;
            }
            if (lines[i].matches(" {4}( {4})?}") && begin >= 0) {
                Script.due("rule 11", "a method's end at line " + (i + 1), "" + (i - begin < LONGEST_METHOD), "true");
            }
        }
    }
}
