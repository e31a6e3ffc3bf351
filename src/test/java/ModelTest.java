import java.lang.reflect.InvocationTargetException;
import java.lang.reflect.Method;
import java.lang.reflect.Modifier;
import java.util.ArrayList;
import java.util.Arrays;
import java.util.Comparator;
import java.util.List;

/**
 * Runs of 512 calls, the same in each session, on the class and on the Model: actions first, then questions, of which
 * more are asked the fewer actions there were. The class is called by reflection, so that no method of its face can be
 * left out.
 */
public final class ModelTest {
    private static final Check CHECK = new Check("ModelTest");
    private static final int RUNS = 4000;
    private static final int CALLS = 512;
    /** So many of a run's calls are kept for the questions at its end. */
    private static final int[] QUESTIONS = {480, 300, 150, 60};
    private static final int MOST_WRONG = 20;
    /** Calls that spread poison and use it; the others would seldom find any if all came as often. */
    private static final String[] FREQUENT = {
        "inject", "inject", "load", "load", "load", "loadByte", "store", "store", "storeByte", "move", "copyBlock",
        "compute", "loadAt", "output", "setMirror", "scrub", "setMode", "run", "run", "undo", "undo",
        "fill", "fill", "setRegister", "setRegister", "restart"
    };
    private static final int[] ODD = {-1, 4, 8, 16, 17, 31, 32, 33, 65535, 65536, Integer.MIN_VALUE, Integer.MAX_VALUE, -6, 0};

    private static long seed;
    private static int callsLeft;

    public static void main(String[] args) throws IllegalAccessException {
        List<Method> methods = new ArrayList<>();
        for (Method method : PoisonedMemory.class.getDeclaredMethods()) {
            if (Modifier.isPublic(method.getModifiers())) {
                methods.add(method);
            }
        }
        methods.sort(Comparator.comparing(Method::getName));
        for (int run = 0; run < RUNS && CHECK.wrong() < MOST_WRONG; run++) {
            seed = 7919L * run + 1;
            compareRun(run, methods);
        }
        CHECK.finish();
    }

    private static void compareRun(int run, List<Method> methods) throws IllegalAccessException {
        PoisonedMemory memory = new PoisonedMemory();
        Model model = new Model();
        String pending = "";
        callsLeft = CALLS;
        while (callsLeft > QUESTIONS[run % QUESTIONS.length] && CHECK.wrong() < MOST_WRONG) {
            String where = "run " + run + ", " + callsLeft + " calls left: ";
            if (!pending.isEmpty()) {
                compare(where, memory, model, find(methods, "append"), pending.charAt(0));
                pending = pending.substring(1);
                if (pending.isEmpty()) {
                    compare(where, memory, model, find(methods, "stopsAt"));
                }
                continue;
            }
            Method method = next(5) > 0 ? find(methods, FREQUENT[next(FREQUENT.length)]) : methods.get(next(methods.size()));
            compare(where, memory, model, method, arguments(method, run % 3));
            if (next(20) == 0) {
                compare(where, memory, model, find(methods, "clearText"));
                pending = someText();
            }
        }
        compareQuestions("run " + run + ", at its end: ", memory, model, methods);
    }

    private static Method find(List<Method> methods, String name) {
        for (Method method : methods) {
            if (method.getName().equals(name)) {
                return method;
            }
        }
        throw new IllegalStateException(name);
    }

    private static void compare(String where, PoisonedMemory memory, Model model, Method method, int... arguments)
            throws IllegalAccessException {
        if (callsLeft == 0) {
            return;
        }
        callsLeft--;
        String call = where + method.getName() + Arrays.toString(arguments);
        Object[] boxed = new Object[arguments.length];
        for (int i = 0; i < boxed.length; i++) {
            boxed[i] = method.getParameterTypes()[i] == boolean.class ? (Object) (arguments[i] == 1) : arguments[i];
        }
        try {
            double got = ((Number) method.invoke(memory, boxed)).doubleValue();
            CHECK.due(call, got, model.call(method.getName(), arguments));
        } catch (InvocationTargetException thrown) {
            CHECK.fail(call + " threw " + thrown.getCause());
        }
    }

    private static int[] arguments(Method method, int oddity) {
        Class<?>[] types = method.getParameterTypes();
        int[] arguments = new int[types.length];
        for (int i = 0; i < types.length; i++) {
            arguments[i] = types[i] == boolean.class ? next(2) : argument(method.getName(), i, oddity);
        }
        return arguments;
    }

    private static int argument(String name, int index, int oddity) {
        if (next(40) < oddity) {
            return ODD[next(ODD.length)];
        }
        boolean isOfTask = List.of("setRegister", "load", "loadByte", "store", "storeByte").contains(name);
        if (isOfTask && index == 0) {
            return next(3);
        }
        if (isOfTask && index >= 2 || name.equals("fill") && index == 2) {
            return index == 3 ? next(2) : name.equals("setRegister") || name.equals("fill") ? next(65536) : next(12);
        }
        switch (name) {
            case "setMode":
                return index == 0 ? next(4) : next(3);
            case "setMirror", "scrub", "poisoned":
                return next(3);
            case "append":
                return 32 + next(95);
            case "move", "compute", "loadAt", "output":
                return index == 0 ? next(3) : next(4);
            case "inject", "copyBlock", "fill", "value", "origin", "hops", "mirrorValue", "mirrorOrigin":
                return index == 2 || name.equals("fill") && index == 1 ? 1 + next(5) : next(12);
            case "source", "carriers", "farthest":
                return next(21);
            case "carriersWithout":
                return next(index == 0 ? 21 : 12);
            case "log":
                return next(index == 0 ? 9 : 4);
            default:
                return next(4);
        }
    }

    private static String someText() {
        StringBuilder text = new StringBuilder();
        int operations = 1 + next(8);
        for (int i = 0; i < operations; i++) {
            text.append(i == 0 ? "" : ";").append(someOperation());
        }
        int oddity = next(8);
        if (oddity == 0) {
            text.setCharAt(next(text.length()), "0123456789;,=LSMAOIV x".charAt(next(22)));
        } else if (oddity == 1) {
            text.setLength(next(text.length() + 1));
        }
        return text.toString();
    }

    private static String someOperation() {
        String task = "" + next(3);
        String two = task + next(4);
        switch (next(7)) {
            case 0:
                return "L" + two + "," + next(12);
            case 1:
                return "S" + two + "," + next(12);
            case 2:
                return "M" + two + next(4);
            case 3:
                return "A" + two + next(4) + next(4) + next(4);
            case 4:
                return "O" + two;
            case 5:
                return "I" + next(32);
            default:
                return "V" + two + "=" + next(next(2) == 0 ? 65536 : 100);
        }
    }

    /** The questions about words and registers begin anywhere, since the calls that are left may not do for all. */
    private static void compareQuestions(String where, PoisonedMemory memory, Model model, List<Method> methods)
            throws IllegalAccessException {
        for (String name : List.of("injections", "faults", "healed", "widest", "atRisk", "poisonShare",
            "poisonedIfScrubbed", "bestScrub", "stopsAt", "fault")) {
            compare(where, memory, model, find(methods, name));
        }
        List<String> ofOne = List.of("value", "origin", "hops", "mirrorValue", "mirrorOrigin", "mode", "stopped", "source",
            "poisoned", "carriers", "farthest");
        List<String> ofTwo = List.of("register", "registerOrigin", "registerHops", "log");
        int all = (ofOne.size() + ofTwo.size()) * 32;
        int start = next(all);
        for (int i = 0; i < all; i++) {
            int question = (start + i) % all;
            int name = question / 32;
            int number = question % 32;
            if (name < ofOne.size()) {
                compare(where, memory, model, find(methods, ofOne.get(name)), number);
            } else {
                compare(where, memory, model, find(methods, ofTwo.get(name - ofOne.size())), number / 4, number % 4);
            }
        }
    }

    /** A number below the bound, by a generator of its own, so that each session makes the same runs. */
    private static int next(int bound) {
        seed = seed * 6364136223846793005L + 1442695040888963407L;
        return (int) ((seed >>> 33) % bound);
    }
}
