/** Compares answers with those that are due, and counts the wrong ones of one test. */
final class Check {
    static final int NO_SUCH = PoisonedMemory.NO_SUCH;
    static final int BAD_VALUE = PoisonedMemory.BAD_VALUE;
    static final int BAD_TEXT = PoisonedMemory.BAD_TEXT;
    static final int TOO_MANY = PoisonedMemory.TOO_MANY;
    static final int NOT_POSSIBLE = PoisonedMemory.NOT_POSSIBLE;
    static final int NONE = PoisonedMemory.NONE;
    static final int FAULT = PoisonedMemory.FAULT;

    static final int STOP = 0;
    static final int SKIP = 1;
    static final int ZERO = 2;

    private final String test;
    private int checked;
    private int wrong;

    Check(String test) {
        this.test = test;
    }

    void due(String call, double got, double want) {
        checked++;
        if (got != want) {
            wrong++;
            System.out.println(test + ": " + call + " answered " + got + ", due is " + want);
        }
    }

    void fail(String what) {
        checked++;
        wrong++;
        System.out.println(test + ": " + what);
    }

    int wrong() {
        return wrong;
    }

    void finish() {
        System.out.println(test + ": " + checked + " answers, " + wrong + " wrong");
        if (wrong != 0) {
            System.exit(1);
        }
    }

    static void type(PoisonedMemory memory, String text) {
        memory.clearText();
        for (int i = 0; i < text.length(); i++) {
            memory.append(text.charAt(i));
        }
    }

    /** Makes a register poisoned by the next injection, by way of a word. */
    static void poisonRegister(PoisonedMemory memory, int task, int register, int word) {
        memory.inject(word);
        memory.load(task, register, word);
    }

    /** The answers of all questions about the state; texts and history have no part in it. */
    static String stateOf(PoisonedMemory memory) {
        StringBuilder state = new StringBuilder();
        for (int word = 0; word < 32; word++) {
            state.append(memory.value(word)).append(' ').append(memory.origin(word)).append(' ');
            state.append(memory.hops(word)).append(' ').append(memory.mirrorValue(word)).append(' ');
            state.append(memory.mirrorOrigin(word)).append(' ').append(memory.source(word)).append('\n');
        }
        for (int task = 0; task < 4; task++) {
            state.append(memory.mode(task)).append(' ').append(memory.stopped(task)).append(' ');
            for (int register = 0; register < 4; register++) {
                state.append(memory.register(task, register)).append(' ');
                state.append(memory.registerOrigin(task, register)).append(' ');
                state.append(memory.registerHops(task, register)).append('\n');
            }
        }
        for (int ago = 0; ago < 9; ago++) {
            for (int part = 0; part < 4; part++) {
                state.append(memory.log(ago, part)).append(' ');
            }
        }
        state.append(memory.injections()).append(' ').append(memory.faults()).append(' ').append(memory.healed());
        return state.toString();
    }

    static void stop(PoisonedMemory memory, int task) {
        poisonRegister(memory, task, 0, 0);
        memory.output(task, 0);
    }
}
