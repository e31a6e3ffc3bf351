import java.util.function.Consumer;
import java.util.function.IntUnaryOperator;

/** What the tests of the document's sentences have in common. */
abstract class Boundary {
    static final int NO_SUCH = PoisonedMemory.NO_SUCH;
    static final int BAD_VALUE = PoisonedMemory.BAD_VALUE;
    static final int BAD_TEXT = PoisonedMemory.BAD_TEXT;
    static final int TOO_MANY = PoisonedMemory.TOO_MANY;
    static final int NOT_POSSIBLE = PoisonedMemory.NOT_POSSIBLE;
    static final int NONE = PoisonedMemory.NONE;
    static final int FAULT = PoisonedMemory.FAULT;

    static final int STOP = 0;
    static final int SKIP = 1;
    static final int ZERO = 2;

    static final int SUM = 0;
    static final int DIFFERENCE = 1;
    static final int XOR = 2;
    static final int PRODUCT = 3;

    interface TaskCall {
        int of(PoisonedMemory memory, int task);
    }

    private final Sentences document;

    Boundary(Sentences document) {
        this.document = document;
    }

    abstract void all();

    final void section(String name) {
        document.section(name);
    }

    final void says(String sentence, Consumer<PoisonedMemory> test) {
        document.says(sentence, test);
    }

    final void plain(String... sentences) {
        document.plain(sentences);
    }

    final void due(String call, double got, double want) {
        document.due(call, got, want);
    }

    final void accepted(String call, int got) {
        document.due(call + " is no error code (answer " + got + ")", isError(got) ? 1 : 0, 0);
    }

    private static boolean isError(int answer) {
        return answer == NO_SUCH || answer == BAD_VALUE || answer == BAD_TEXT || answer == TOO_MANY
            || answer == NOT_POSSIBLE;
    }

    /** Within and at both ends the call answers no error code; just beyond them, and far beyond, it answers the code. */
    final void range(String what, int least, int most, int code, IntUnaryOperator call) {
        int[] within = {least, Math.min(least + 1, most), Math.max(most - 1, least), most};
        int[] beyond = {least - 1, most + 1, Integer.MIN_VALUE, Integer.MAX_VALUE};
        for (int argument : within) {
            accepted(what + " " + argument, call.applyAsInt(argument));
        }
        for (int argument : beyond) {
            due(what + " " + argument, call.applyAsInt(argument), code);
        }
    }

    /** A running task may, a stopped one may not, the others may still, and a restarted one may again. */
    final void onlyRunning(String what, TaskCall call) {
        for (int task = 0; task < 4; task++) {
            PoisonedMemory x = new PoisonedMemory();
            accepted(what + " of a running task", call.of(x, task));
            Check.stop(x, task);
            due(what + " of a stopped task", call.of(x, task), NOT_POSSIBLE);
            for (int other = 0; other < 4; other++) {
                if (other != task) {
                    accepted(what + " of another task", call.of(x, other));
                }
            }
            x.restart(task);
            accepted(what + " of a restarted task", call.of(x, task));
        }
    }

    /** Injects the word and copies it onto itself until its mark has this number of hops. */
    static void poisonWord(PoisonedMemory x, int word, int hops) {
        x.inject(word);
        for (int i = 0; i < hops; i++) {
            x.copyBlock(word, word, 1);
        }
    }

    static void poisonRegister(PoisonedMemory x, int task, int register, int word) {
        Check.poisonRegister(x, task, register, word);
    }

    static void type(PoisonedMemory x, String text) {
        Check.type(x, text);
    }

    static int faultOf(String text) {
        PoisonedMemory x = new PoisonedMemory();
        type(x, text);
        return x.fault();
    }

    /** 1 if the call leaves the state, the history and the text of an object that was made like this, otherwise 0. */
    static int leavesAll(Consumer<PoisonedMemory> preparation, Consumer<PoisonedMemory> call) {
        return wholeOf(preparation).equals(wholeOf(preparation.andThen(call))) ? 1 : 0;
    }

    /** Several objects, made alike, tell it together: one alone would need more calls than the document allows. */
    private static String wholeOf(Consumer<PoisonedMemory> preparation) {
        StringBuilder whole = new StringBuilder();
        for (int undos = 0; undos <= 5; undos++) {
            PoisonedMemory x = new PoisonedMemory();
            preparation.accept(x);
            for (int i = 0; i < undos; i++) {
                whole.append(x.undo()).append(' ');
            }
            whole.append(Check.stateOf(x)).append('\n');
        }
        PoisonedMemory x = new PoisonedMemory();
        preparation.accept(x);
        whole.append(x.fault()).append(' ').append(x.run()).append(' ').append(Check.stateOf(x)).append(' ');
        return whole.append(x.clearText()).toString();
    }
}
