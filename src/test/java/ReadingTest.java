/** Promises 23 to 37: what there is. */
public final class ReadingTest {
    private static final Check CHECK = new Check("ReadingTest");

    public static void main(String[] args) {
        promises23To25Words();
        promises26And27Mirror();
        promises28To30Registers();
        promises31And32Tasks();
        promises33And34Injections();
        promises35And36Log();
        promise36LogHoldsEight();
        promise37Healed();
        readingChangesNothing();
        CHECK.finish();
    }

    private static void promises23To25Words() {
        PoisonedMemory x = new PoisonedMemory();
        x.fill(31, 1, 65535);
        x.fill(0, 1, 1);
        x.inject(0);
        x.inject(31);
        x.copyBlock(31, 30, 1);
        CHECK.due("value(31)", x.value(31), 65535);
        CHECK.due("value(30)", x.value(30), 65535);
        CHECK.due("value(0)", x.value(0), 1);
        CHECK.due("origin(30)", x.origin(30), 1);
        CHECK.due("origin(0)", x.origin(0), 0);
        CHECK.due("origin(1)", x.origin(1), Check.NONE);
        CHECK.due("hops(30)", x.hops(30), 1);
        CHECK.due("hops(0)", x.hops(0), 0);
        CHECK.due("hops(1)", x.hops(1), Check.NONE);
        for (int word : new int[] {-1, 32, Integer.MIN_VALUE, Integer.MAX_VALUE}) {
            CHECK.due("value", x.value(word), Check.NO_SUCH);
            CHECK.due("origin", x.origin(word), Check.NO_SUCH);
            CHECK.due("hops", x.hops(word), Check.NO_SUCH);
        }
    }

    private static void promises26And27Mirror() {
        PoisonedMemory x = new PoisonedMemory();
        x.fill(3, 2, 15);
        x.inject(3);
        x.setMirror(0, true);
        CHECK.due("mirrorValue(3)", x.mirrorValue(3), 15);
        CHECK.due("mirrorOrigin(3)", x.mirrorOrigin(3), 0);
        CHECK.due("mirrorValue(2)", x.mirrorValue(2), 0);
        CHECK.due("mirrorOrigin(2)", x.mirrorOrigin(2), Check.NONE);
        CHECK.due("mirrorValue(4)", x.mirrorValue(4), Check.NONE);
        CHECK.due("mirrorOrigin(4)", x.mirrorOrigin(4), Check.NONE);
        for (int word : new int[] {-1, 32, Integer.MIN_VALUE, Integer.MAX_VALUE}) {
            CHECK.due("mirrorValue", x.mirrorValue(word), Check.NO_SUCH);
            CHECK.due("mirrorOrigin", x.mirrorOrigin(word), Check.NO_SUCH);
        }
    }

    private static void promises28To30Registers() {
        PoisonedMemory x = new PoisonedMemory();
        x.setRegister(3, 3, 65535);
        x.setRegister(0, 1, 2);
        x.fill(6, 1, 8);
        x.inject(7);
        Check.poisonRegister(x, 2, 0, 6);
        CHECK.due("register", x.register(3, 3), 65535);
        CHECK.due("register", x.register(0, 1), 2);
        CHECK.due("register", x.register(1, 0), 0);
        CHECK.due("register", x.register(2, 0), 8);
        CHECK.due("registerOrigin", x.registerOrigin(2, 0), 1);
        CHECK.due("registerOrigin", x.registerOrigin(3, 3), Check.NONE);
        CHECK.due("registerHops", x.registerHops(2, 0), 1);
        CHECK.due("registerHops", x.registerHops(3, 3), Check.NONE);
        int[] tasks = {-1, 4, 0, 0, Integer.MAX_VALUE, 0};
        int[] registers = {0, 0, -1, 4, 0, Integer.MIN_VALUE};
        for (int i = 0; i < tasks.length; i++) {
            CHECK.due("register", x.register(tasks[i], registers[i]), Check.NO_SUCH);
            CHECK.due("registerOrigin", x.registerOrigin(tasks[i], registers[i]), Check.NO_SUCH);
            CHECK.due("registerHops", x.registerHops(tasks[i], registers[i]), Check.NO_SUCH);
        }
    }

    private static void promises31And32Tasks() {
        PoisonedMemory x = new PoisonedMemory();
        x.setMode(1, 2);
        x.setMode(2, 1);
        Check.stop(x, 3);
        for (int task = 0; task < 4; task++) {
            CHECK.due("mode", x.mode(task), task == 1 ? 2 : task == 2 ? 1 : 0);
            CHECK.due("stopped", x.stopped(task), task == 3 ? 1 : 0);
        }
        for (int task : new int[] {-1, 4, Integer.MIN_VALUE, Integer.MAX_VALUE}) {
            CHECK.due("mode", x.mode(task), Check.NO_SUCH);
            CHECK.due("stopped", x.stopped(task), Check.NO_SUCH);
        }
    }

    private static void promises33And34Injections() {
        PoisonedMemory x = new PoisonedMemory();
        CHECK.due("source(0)", x.source(0), Check.NO_SUCH);
        for (int i = 0; i < 20; i++) {
            x.inject(31 - i);
            CHECK.due("injections", x.injections(), i + 1);
            CHECK.due("source", x.source(i), 31 - i);
            CHECK.due("source of the next", x.source(i + 1), Check.NO_SUCH);
        }
        CHECK.due("source(-1)", x.source(-1), Check.NO_SUCH);
        CHECK.due("source(0)", x.source(0), 31);
        x.fill(31, 1, 0);
        CHECK.due("source of a poison that is gone", x.source(0), 31);
        x.undo();
        x.undo();
        CHECK.due("injections after undo", x.injections(), 19);
        CHECK.due("source after undo", x.source(19), Check.NO_SUCH);
    }

    private static void promises35And36Log() {
        PoisonedMemory x = new PoisonedMemory();
        x.inject(0);
        Check.poisonRegister(x, 3, 2, 1);
        x.setMode(3, Check.SKIP);
        x.output(3, 2);
        CHECK.due("faults", x.faults(), 1);
        CHECK.due("task", x.log(0, 0), 3);
        CHECK.due("register", x.log(0, 1), 2);
        CHECK.due("origin", x.log(0, 2), 1);
        CHECK.due("mode", x.log(0, 3), 1);
        CHECK.due("no second one", x.log(1, 0), Check.NONE);
        CHECK.due("ago most", x.log(Integer.MAX_VALUE, 0), Check.NONE);
        CHECK.due("ago -1", x.log(-1, 0), Check.BAD_VALUE);
        CHECK.due("ago least", x.log(Integer.MIN_VALUE, 0), Check.BAD_VALUE);
        CHECK.due("part -1", x.log(0, -1), Check.BAD_VALUE);
        CHECK.due("part 4", x.log(0, 4), Check.BAD_VALUE);
        CHECK.due("BAD_VALUE before NONE", x.log(5, 4), Check.BAD_VALUE);
        x.setMode(3, Check.ZERO);
        CHECK.due("the mode at the fault", x.log(0, 3), 1);
        CHECK.due("setMode is no fault", x.faults(), 1);
    }

    private static void promise36LogHoldsEight() {
        PoisonedMemory x = new PoisonedMemory();
        x.inject(0);
        for (int task = 0; task < 4; task++) {
            x.setMode(task, Check.SKIP);
            for (int register = 0; register < 4; register++) {
                x.load(task, register, 0);
            }
        }
        for (int i = 0; i < 11; i++) {
            x.output(i % 4, i / 4);
            CHECK.due("faults", x.faults(), i + 1);
            CHECK.due("latest task", x.log(0, 0), i % 4);
            CHECK.due("oldest that is held", x.log(i < 8 ? i : 7, 1), i < 8 ? 0 : (i - 7) / 4);
            CHECK.due("older ones", x.log(i < 8 ? i + 1 : 8, 1), Check.NONE);
        }
        for (int ago = 0; ago < 8; ago++) {
            CHECK.due("task", x.log(ago, 0), (10 - ago) % 4);
            CHECK.due("register", x.log(ago, 1), (10 - ago) / 4);
        }
        x.undo();
        CHECK.due("after undo the dropped one is back", x.log(7, 0), 2);
        CHECK.due("after undo", x.log(0, 0), 1);
        CHECK.due("faults after undo", x.faults(), 10);
    }

    private static void promise37Healed() {
        PoisonedMemory x = new PoisonedMemory();
        x.setMirror(0, true);
        x.inject(0);
        CHECK.due("at first", x.healed(), 0);
        x.load(0, 0, 0);
        CHECK.due("load", x.healed(), 1);
        x.inject(0);
        x.loadByte(0, 0, 0, 0);
        CHECK.due("loadByte", x.healed(), 2);
        x.inject(0);
        x.storeByte(0, 0, 0, 0);
        CHECK.due("storeByte", x.healed(), 3);
        x.inject(0);
        x.loadAt(0, 0, 0);
        CHECK.due("loadAt", x.healed(), 4);
        x.inject(0);
        x.inject(1);
        x.copyBlock(0, 8, 2);
        CHECK.due("copyBlock", x.healed(), 6);
        x.inject(0);
        x.fill(0, 1, 0);
        CHECK.due("fill heals nothing", x.healed(), 6);
        x.inject(0);
        x.setMirror(0, false);
        x.load(0, 0, 0);
        CHECK.due("no mirror, no healing", x.healed(), 6);
    }

    /** Reading a word does not fetch it, and no question is recorded. */
    private static void readingChangesNothing() {
        PoisonedMemory x = new PoisonedMemory();
        x.setMirror(0, true);
        x.inject(0);
        for (int round = 0; round < 2; round++) {
            CHECK.due("origin", x.origin(0), 0);
            CHECK.due("value", x.value(0), 0);
            CHECK.due("hops", x.hops(0), 0);
            CHECK.due("mirrorValue", x.mirrorValue(0), 0);
            CHECK.due("mirrorOrigin", x.mirrorOrigin(0), Check.NONE);
            CHECK.due("poisoned", x.poisoned(0), 1);
            CHECK.due("poisonedIfScrubbed", x.poisonedIfScrubbed(), 0);
            CHECK.due("bestScrub", x.bestScrub(), 0);
            CHECK.due("carriersWithout", x.carriersWithout(0, 0), 0);
            CHECK.due("stopsAt", x.stopsAt(), Check.BAD_TEXT);
            CHECK.due("healed", x.healed(), 0);
        }
        CHECK.due("undo", x.undo(), 1);
    }
}
