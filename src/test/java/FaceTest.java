import java.io.IOException;
import java.lang.reflect.Constructor;
import java.lang.reflect.Field;
import java.lang.reflect.Method;
import java.lang.reflect.Modifier;
import java.nio.file.Files;
import java.nio.file.Path;
import java.util.ArrayList;
import java.util.List;
import java.util.Set;
import java.util.TreeSet;

/** The face is that of the document, no more and no less, and the source keeps to what can be seen of LANGUAGE.md. */
public final class FaceTest {
    /** Whatever LANGUAGE.md leaves may be there; an answer by catching what the machine throws may not. */
    private static final String[] NOT_IN_THE_SOURCE = {"->", "::", "finally", "synchronized", "assert ", "static {",
        "protected ", "package ", "System.out", "System.err", "System.exit", "currentTime", "nanoTime", "random",
        "Thread", "java.io", "java.nio", "java.net", "Exact(", "ArrayIndexOutOfBounds", "StringIndexOutOfBounds",
        "NullPointer", "NegativeArraySize", "ArrayStore", "ClassCast", "catch (Exception", "catch (Throwable",
        "catch (RuntimeException"};

    private static final Set<String> IMPORTS = Set.of("java.util.NoSuchElementException", "java.util.ArrayList",
        "java.util.List", "java.util.Arrays", "java.util.Iterator");

    private static final int LONGEST_METHOD = 60;
    private static final int MOST_PARAMETERS = 7;
    private static final int MOST_FIELDS = 20;
    private static final int MOST_CLASSES = 12;

    private static final Set<String> FACE = new TreeSet<>();

    public static void main(String[] args) throws IOException {
        readTheFace();
        theFace();
        nothingElseToBeSeen();
        namesOfItsOwn();
        fewOfAll();
        theSource();
        Script.finish("FaceTest");
    }

    /** As the document writes it, without the names of parameters. */
    private static void readTheFace() throws IOException {
        for (String line : Files.readAllLines(Path.of("../shared/DOC.md"))) {
            if (line.matches(" {4}public .*\\).*;")) {
                FACE.add(line.trim().replace(";", "").replaceAll("((?!throws)\\b[a-z]+) \\w+([,)])", "$1$2"));
            }
        }
        Script.due("face", "has the document the constructor", "" + FACE.remove("public Cryway()"), "true");
    }

    private static void theFace() {
        Set<String> got = new TreeSet<>();
        for (Method method : Cryway.class.getDeclaredMethods()) {
            if (Modifier.isPublic(method.getModifiers())) {
                String text = method.toString().replace("Cryway.", "").replace("java.lang.", "").replace("java.util.", "");
                got.add(text.replace(",", ", "));
            }
        }
        Script.due("face", "public methods", got.toString(), FACE.toString());
        Script.due("face", "the class", Modifier.toString(Cryway.class.getModifiers()), "public final");
        Script.due("face", "its superclass", Cryway.class.getSuperclass().getName(), "java.lang.Object");
        Script.due("face", "its interfaces", "" + Cryway.class.getInterfaces().length, "0");
        Constructor<?>[] constructors = Cryway.class.getDeclaredConstructors();
        Script.due("face", "constructors", "" + constructors.length, "1");
        Script.due("face", "the constructor", constructors[0].toString(), "public Cryway()");
    }

    private static void nothingElseToBeSeen() {
        for (Method method : Cryway.class.getDeclaredMethods()) {
            boolean fine = Modifier.isPublic(method.getModifiers()) || Modifier.isPrivate(method.getModifiers());
            Script.due("rule 1", "seen from outside: " + method, "" + fine, "true");
        }
        for (Field field : Cryway.class.getDeclaredFields()) {
            boolean fine = Modifier.isPrivate(field.getModifiers()) && Modifier.isFinal(field.getModifiers())
                || Modifier.isPrivate(field.getModifiers()) && !Modifier.isStatic(field.getModifiers());
            Script.due("rules 1 and 5", "a field: " + field, "" + fine, "true");
        }
        for (Class<?> inside : Cryway.class.getDeclaredClasses()) {
            int modifiers = inside.getModifiers();
            boolean fine = Modifier.isStatic(modifiers) && !Modifier.isPublic(modifiers) && !Modifier.isProtected(modifiers);
            Script.due("rule 1", "a class inside: " + inside, "" + fine, "true");
        }
    }

    private static void namesOfItsOwn() {
        Set<String> names = new TreeSet<>();
        for (String line : FACE) {
            names.add(line.substring(line.lastIndexOf(' ', line.indexOf('(')) + 1, line.indexOf('(')));
        }
        for (Class<?> each : allClasses()) {
            for (Method method : each.getDeclaredMethods()) {
                boolean taken = !Modifier.isPublic(method.getModifiers()) && names.contains(method.getName());
                Script.due("rule 1", "the name of a public one: " + method, "" + taken, "false");
            }
        }
    }

    private static List<Class<?>> allClasses() {
        List<Class<?>> all = new ArrayList<>(List.of(Cryway.class.getDeclaredClasses()));
        all.add(Cryway.class);
        return all;
    }

    private static void fewOfAll() {
        Script.due("rule 11", "few classes", "" + (allClasses().size() <= MOST_CLASSES), "true");
        for (Class<?> each : allClasses()) {
            int fields = 0;
            for (Field field : each.getDeclaredFields()) {
                fields += Modifier.isStatic(field.getModifiers()) ? 0 : 1;
            }
            Script.due("rule 11", "few fields: " + each, "" + (fields <= MOST_FIELDS), "true");
            for (Method method : each.getDeclaredMethods()) {
                boolean few = method.getParameterCount() <= MOST_PARAMETERS;
                Script.due("rule 11", "few parameters: " + method, "" + few, "true");
            }
        }
    }

    private static void theSource() throws IOException {
        String source = Files.readString(Path.of("src/main/java/Cryway.java"));
        for (String word : NOT_IN_THE_SOURCE) {
            Script.due("LANGUAGE.md", "the source has " + word, "" + source.contains(word), "false");
        }
        for (String line : source.split("\n")) {
            String wanted = line.startsWith("import ") ? line.substring("import ".length()).replace(";", "").trim() : null;
            Script.due("rule 4", "an import: " + line, "" + (wanted == null || IMPORTS.contains(wanted)), "true");
        }
        int begin = -1;
        String[] lines = source.split("\n");
        for (int i = 0; i < lines.length; i++) {
            if (lines[i].matches(" {4}( {4})?[a-zA-Z].*[({,]")) {
                begin = i;
            }
            if (lines[i].matches(" {4}( {4})?}") && begin >= 0) {
                Script.due("rule 11", "a method's end at line " + (i + 1), "" + (i - begin < LONGEST_METHOD), "true");
            }
        }
    }
}
