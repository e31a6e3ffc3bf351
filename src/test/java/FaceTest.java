import java.io.IOException;
import java.lang.reflect.Constructor;
import java.lang.reflect.Field;
import java.lang.reflect.Method;
import java.lang.reflect.Modifier;
import java.nio.file.Files;
import java.nio.file.Path;
import java.util.ArrayList;
import java.util.List;
import java.util.TreeSet;

/** The public face: the document's constants, constructor and methods, and no other member that is seen from outside. */
public final class FaceTest {
    private static final Check CHECK = new Check("FaceTest");
    private static final String[] METHODS = {
        "append(int)", "atRisk()", "bestScrub()", "carriers(int)", "carriersWithout(int,int)", "clearText()",
        "compute(int,int,int,int,int)", "copyBlock(int,int,int)", "farthest(int)", "fault()", "faults()",
        "fill(int,int,int)", "healed()", "hops(int)", "inject(int)", "injections()", "load(int,int,int)",
        "loadAt(int,int,int)", "loadByte(int,int,int,int)", "log(int,int)", "mirrorOrigin(int)", "mirrorValue(int)",
        "mode(int)", "move(int,int,int)", "origin(int)", "output(int,int)", "poisonShare()", "poisoned(int)",
        "poisonedIfScrubbed()", "register(int,int)", "registerHops(int,int)", "registerOrigin(int,int)",
        "restart(int)", "run()", "scrub(int)", "setMirror(int,boolean)", "setMode(int,int)",
        "setRegister(int,int,int)", "source(int)", "stopped(int)", "stopsAt()", "store(int,int,int)",
        "storeByte(int,int,int,int)", "undo()", "value(int)", "widest()"
    };
    private static final String[] CONSTANTS = {
        "NO_SUCH", "BAD_VALUE", "BAD_TEXT", "TOO_MANY", "NOT_POSSIBLE", "NONE", "FAULT"
    };

    public static void main(String[] args) throws IOException, IllegalAccessException {
        Class<?> face = PoisonedMemory.class;
        CHECK.due("public and final", face.getModifiers(), Modifier.PUBLIC | Modifier.FINAL);
        checkMethods(face);
        checkConstants(face);
        Constructor<?>[] constructors = face.getDeclaredConstructors();
        CHECK.due("constructors", constructors.length, 1);
        CHECK.due("public", constructors[0].getModifiers(), Modifier.PUBLIC);
        CHECK.due("without parameters", constructors[0].getParameterCount(), 0);
        checkInnerClasses(face);
        checkDocument();
        CHECK.finish();
    }

    /** Each line of the document's face, with the names of its parameters, stands in the source in the same order. */
    private static void checkDocument() throws IOException {
        String section = Files.readString(Path.of("../shared/DOC.md")).split("## The public face")[1];
        String source = Files.readString(Path.of("src/main/java/PoisonedMemory.java"));
        int end = 0;
        int members = 0;
        for (String line : section.split("```")[1].lines().toList()) {
            if (line.strip().startsWith("public ")) {
                String wanted = line.contains("(") ? line.replace(");", ") {\n") : line + "\n";
                int start = source.indexOf("\n" + wanted, end - 1);
                CHECK.due("the source says, in its place: " + line.strip(), start >= 0 ? 1 : 0, 1);
                end = start < 0 ? end : start + wanted.length();
                members++;
            }
        }
        CHECK.due("the class, its constants, its constructor and its methods", members, 2 + CONSTANTS.length + METHODS.length);
    }

    private static void checkMethods(Class<?> face) {
        TreeSet<String> seen = new TreeSet<>();
        for (Method method : face.getDeclaredMethods()) {
            if (!Modifier.isPrivate(method.getModifiers())) {
                seen.add(signatureOf(method));
                CHECK.due(method.getName() + " is public", method.getModifiers(), Modifier.PUBLIC);
                Class<?> due = method.getName().equals("poisonShare") ? float.class : int.class;
                if (method.getReturnType() != due) {
                    CHECK.fail(method + " answers another type");
                }
            }
        }
        if (!seen.equals(new TreeSet<>(List.of(METHODS)))) {
            CHECK.fail("the methods are " + seen);
        }
    }

    private static String signatureOf(Method method) {
        List<String> types = new ArrayList<>();
        for (Class<?> type : method.getParameterTypes()) {
            types.add(type.getName());
        }
        return method.getName() + "(" + String.join(",", types) + ")";
    }

    private static void checkConstants(Class<?> face) throws IllegalAccessException {
        int count = 0;
        for (Field field : face.getDeclaredFields()) {
            if (!Modifier.isPrivate(field.getModifiers())) {
                CHECK.due(field + "", field.getModifiers(), Modifier.PUBLIC | Modifier.STATIC | Modifier.FINAL);
                int index = List.of(CONSTANTS).indexOf(field.getName());
                CHECK.due(field + "", field.getInt(null), -1 - index);
                count += index >= 0 ? 1 : 0;
            }
        }
        CHECK.due("constants", count, CONSTANTS.length);
    }

    /** Rules 1, 2 and 11 of LANGUAGE.md, as far as the compiled classes show them. */
    private static void checkInnerClasses(Class<?> face) {
        TreeSet<String> publicNames = new TreeSet<>();
        for (String method : METHODS) {
            publicNames.add(method.substring(0, method.indexOf('(')));
        }
        List<Class<?>> all = new ArrayList<>(List.of(face.getDeclaredClasses()));
        for (Class<?> inner : all) {
            int modifiers = inner.getModifiers();
            if (Modifier.isPublic(modifiers) || Modifier.isProtected(modifiers) || !Modifier.isStatic(modifiers)) {
                CHECK.fail(inner + " is seen from outside, or not static");
            }
        }
        all.add(face);
        CHECK.due("some twelve classes at most", all.size() <= 12 ? 1 : 0, 1);
        for (Class<?> one : all) {
            for (Method method : one.getDeclaredMethods()) {
                if (Modifier.isPrivate(method.getModifiers()) && publicNames.contains(method.getName())) {
                    CHECK.fail(method + " is private and bears a public name");
                }
                CHECK.due(method + ", seven parameters at most", method.getParameterCount() <= 7 ? 1 : 0, 1);
            }
            int fields = 0;
            for (Field field : one.getDeclaredFields()) {
                boolean isStatic = Modifier.isStatic(field.getModifiers());
                fields += isStatic ? 0 : 1;
                if (isStatic && !Modifier.isFinal(field.getModifiers())) {
                    CHECK.fail(field + " is static and not final");
                }
            }
            CHECK.due(one + ", some twenty fields at most", fields <= 20 ? 1 : 0, 1);
        }
    }
}
