import java.io.IOException;
import java.lang.reflect.Constructor;
import java.lang.reflect.Field;
import java.lang.reflect.Method;
import java.lang.reflect.Modifier;
import java.nio.file.Files;
import java.nio.file.Path;
import java.util.Arrays;
import java.util.Set;
import java.util.TreeSet;
import java.util.regex.Matcher;
import java.util.regex.Pattern;

/** The document's face and nothing beside it. */
public final class FaceTest extends Due {
    private static final Path DOCUMENT = Path.of("../shared/DOC.md");
    private static final String[] FACE = {
        "int vehicle(int,boolean) UNKNOWN ROOM",
        "void list(int,int,int,int,int,int) UNKNOWN RANGE",
        "void unlist(int,int) UNKNOWN STATE",
        "boolean answer(int,int,int,int) UNKNOWN RANGE STATE",
        "int item(int,int,int) UNKNOWN",
        "boolean use(int,int) UNKNOWN RANGE STATE",
        "boolean runs(int) UNKNOWN",
        "int reason(int,int) UNKNOWN RANGE",
        "void off(int,boolean,int,int) UNKNOWN STATE",
        "int damage(int,int) UNKNOWN RANGE ROOM",
        "void proof(int,int) UNKNOWN RANGE STATE",
        "void need(int,int,int) UNKNOWN RANGE",
        "int put(int,int,int) UNKNOWN RANGE ROOM",
        "int swap(int,int,int) UNKNOWN STATE",
        "int spare(int) UNKNOWN",
        "int fuel(int,int) UNKNOWN RANGE ROOM",
        "long using(int,int) UNKNOWN STATE",
        "int key(int,int) UNKNOWN STATE",
        "int cost(int,int) UNKNOWN RANGE ROOM",
        "int skipped(int) RANGE",
        "int tick(int) RANGE",
        "int vehicleAt(int,int) UNKNOWN",
    };

    public static void main(String[] args) throws IOException {
        theClass();
        theMethods();
        theNestedClasses();
        theFaceOfTheDocument();
        end();
    }

    private static void theClass() {
        Class<?> face = VehicleChecks.class;
        is(true, () -> Modifier.isPublic(face.getModifiers()) && Modifier.isFinal(face.getModifiers()));
        Constructor<?>[] all = face.getDeclaredConstructors();
        is(1, () -> all.length);
        is(true, () -> Modifier.isPublic(all[0].getModifiers()) && all[0].getParameterCount() == 0);
        for (Field f : face.getDeclaredFields()) {
            compare("private " + f.getName(), (Modifier.isPrivate(f.getModifiers()) ? "private " : "open ") + f.getName());
            if (Modifier.isStatic(f.getModifiers())) {
                compare("final " + f.getName(), (Modifier.isFinal(f.getModifiers()) ? "final " : "changing ") + f.getName());
            }
        }
    }

    private static void theMethods() {
        Set<String> due = new TreeSet<>(Arrays.asList(FACE));
        Set<String> names = new TreeSet<>();
        Set<String> got = new TreeSet<>();
        for (Method m : VehicleChecks.class.getDeclaredMethods()) {
            if (!Modifier.isPrivate(m.getModifiers())) {
                got.add(signature(m));
                names.add(m.getName());
            }
        }
        compare(due.toString(), got.toString());
        for (Method m : VehicleChecks.class.getDeclaredMethods()) {
            if (Modifier.isPrivate(m.getModifiers())) {
                compare(m.getName() + " false", m.getName() + " " + names.contains(m.getName()));
            }
        }
    }

    private static String signature(Method m) {
        StringBuilder text = new StringBuilder(m.getReturnType().getName()).append(' ').append(m.getName()).append('(');
        String comma = "";
        for (Class<?> p : m.getParameterTypes()) {
            text.append(comma).append(p.getName());
            comma = ",";
        }
        text.append(')');
        for (Class<?> e : m.getExceptionTypes()) {
            text.append(e == UNKNOWN ? " UNKNOWN" : e == RANGE ? " RANGE" : e == STATE ? " STATE"
                : e == ROOM ? " ROOM" : " " + e.getName());
        }
        return text.toString();
    }

    private static void theNestedClasses() {
        for (Class<?> c : VehicleChecks.class.getDeclaredClasses()) {
            int m = c.getModifiers();
            compare(c.getName() + " static", c.getName() + (Modifier.isStatic(m) ? " static" : " inner"));
            compare(c.getName() + " hidden", c.getName()
                + (Modifier.isPublic(m) || Modifier.isProtected(m) ? " open" : " hidden"));
            is(true, () -> c.getDeclaredFields().length <= 20);
        }
    }

    /** Line by line in the text of the class, for the compiled class does not tell the names of parameters. */
    private static void theFaceOfTheDocument() throws IOException {
        if (!Files.exists(DOCUMENT)) {
            System.out.println("there is no " + DOCUMENT + ": the face is not compared with it");
            return;
        }
        String text = Files.readString(Path.of("src/main/java/VehicleChecks.java")).replaceAll("\\s+", " ");
        Matcher face = Pattern.compile("(?s)## The public face\\s+```java\n(.*?)```").matcher(Files.readString(DOCUMENT));
        if (!face.find()) {
            compare("the document's face", "nothing");
            return;
        }
        int members = 0;
        for (String line : face.group(1).split("\n")) {
            String head = line.trim().replaceAll(";$", " {");
            compare(head, text.contains(head) ? head : "nothing");
            members += line.endsWith(";") ? 1 : 0;
        }
        compare((FACE.length + 1) + " members", members + " members");
    }
}
