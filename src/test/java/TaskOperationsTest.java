/** Promises 7 to 17: setMode, restart and the operations of tasks. */
public final class TaskOperationsTest {
    private static final Check CHECK = new Check("TaskOperationsTest");

    public static void main(String[] args) {
        promise7SetMode();
        promise8Restart();
        promise9SetRegister();
        promise10Load();
        promise11LoadByte();
        promise12Store();
        promise13StoreByte();
        promise13StoreByteKeepsTheMark();
        promise14Move();
        promise15Compute();
        promise15ComputeFaults();
        promise15ComputeZeroes();
        promise15ComputeErrors();
        promise16LoadAt();
        promise16LoadAtErrors();
        promise17Output();
        promise17OutputErrors();
        CHECK.finish();
    }

    private static void promise7SetMode() {
        PoisonedMemory x = new PoisonedMemory();
        CHECK.due("first", x.setMode(3, 2), 0);
        CHECK.due("second", x.setMode(3, 1), 2);
        CHECK.due("mode", x.mode(3), 1);
        CHECK.due("another task", x.mode(2), 0);
        CHECK.due("task -1", x.setMode(-1, 3), Check.NO_SUCH);
        CHECK.due("task 4", x.setMode(4, 0), Check.NO_SUCH);
        CHECK.due("mode -1", x.setMode(0, -1), Check.BAD_VALUE);
        CHECK.due("mode 3", x.setMode(0, 3), Check.BAD_VALUE);
        CHECK.due("only two actions were recorded", x.undo(), 1);
        Check.stop(x, 0);
        CHECK.due("a stopped task too", x.setMode(0, 1), 0);
        CHECK.due("stays stopped", x.stopped(0), 1);
    }

    private static void promise8Restart() {
        PoisonedMemory x = new PoisonedMemory();
        x.setMode(1, 0);
        x.setRegister(1, 3, 40);
        x.setRegister(2, 3, 41);
        Check.poisonRegister(x, 1, 1, 5);
        Check.stop(x, 1);
        CHECK.due("stopped", x.stopped(1), 1);
        CHECK.due("restart", x.restart(1), 2);
        CHECK.due("running", x.stopped(1), 0);
        for (int register = 0; register < 4; register++) {
            CHECK.due("value", x.register(1, register), 0);
            CHECK.due("clean", x.registerOrigin(1, register), Check.NONE);
            CHECK.due("no hops", x.registerHops(1, register), Check.NONE);
        }
        CHECK.due("another task", x.register(2, 3), 41);
        x.setMode(2, 2);
        CHECK.due("a running task", x.restart(2), 0);
        CHECK.due("its register", x.register(2, 3), 0);
        CHECK.due("its mode", x.mode(2), 2);
        CHECK.due("task -1", x.restart(-1), Check.NO_SUCH);
        CHECK.due("task 4", x.restart(4), Check.NO_SUCH);
    }

    private static void promise9SetRegister() {
        PoisonedMemory x = new PoisonedMemory();
        CHECK.due("before", x.setRegister(0, 3, 65535), 0);
        CHECK.due("before", x.setRegister(0, 3, 4), 65535);
        CHECK.due("register", x.register(0, 3), 4);
        Check.poisonRegister(x, 0, 3, 9);
        CHECK.due("poisoned", x.registerOrigin(0, 3), 0);
        x.setRegister(0, 3, 6);
        CHECK.due("clean", x.registerOrigin(0, 3), Check.NONE);
        CHECK.due("no fault", x.faults(), 0);
        CHECK.due("task -1", x.setRegister(-1, 0, -1), Check.NO_SUCH);
        CHECK.due("task 4", x.setRegister(4, 0, 0), Check.NO_SUCH);
        CHECK.due("register -1", x.setRegister(0, -1, 0), Check.NO_SUCH);
        CHECK.due("register 4", x.setRegister(0, 4, 65536), Check.NO_SUCH);
        Check.stop(x, 0);
        CHECK.due("value -1", x.setRegister(0, 0, -1), Check.BAD_VALUE);
        CHECK.due("value 65536", x.setRegister(0, 0, 65536), Check.BAD_VALUE);
        CHECK.due("stopped", x.setRegister(0, 0, 1), Check.NOT_POSSIBLE);
        CHECK.due("nothing changed", x.register(0, 3), 6);
    }

    private static void promise10Load() {
        PoisonedMemory x = new PoisonedMemory();
        x.fill(31, 1, 1234);
        CHECK.due("load", x.load(3, 2, 31), 1234);
        CHECK.due("register", x.register(3, 2), 1234);
        x.inject(31);
        x.load(3, 2, 31);
        CHECK.due("origin", x.registerOrigin(3, 2), 0);
        CHECK.due("hops", x.registerHops(3, 2), 1);
        x.load(3, 2, 30);
        CHECK.due("clean again", x.registerOrigin(3, 2), Check.NONE);
        x.setMirror(7, true);
        x.inject(30);
        x.load(3, 2, 30);
        CHECK.due("healed first", x.registerOrigin(3, 2), Check.NONE);
        CHECK.due("healed", x.healed(), 1);
        CHECK.due("the word", x.origin(30), Check.NONE);
        CHECK.due("task -1", x.load(-1, 0, 0), Check.NO_SUCH);
        CHECK.due("task 4", x.load(4, 0, 0), Check.NO_SUCH);
        CHECK.due("register -1", x.load(0, -1, 0), Check.NO_SUCH);
        CHECK.due("register 4", x.load(0, 4, 0), Check.NO_SUCH);
        CHECK.due("word -1", x.load(0, 0, -1), Check.NO_SUCH);
        Check.stop(x, 0);
        CHECK.due("word 32", x.load(0, 0, 32), Check.NO_SUCH);
        x.inject(30);
        CHECK.due("stopped", x.load(0, 0, 30), Check.NOT_POSSIBLE);
        CHECK.due("nothing was fetched", x.origin(30), 3);
    }

    private static void promise11LoadByte() {
        PoisonedMemory x = new PoisonedMemory();
        x.fill(3, 1, 0xABCD);
        CHECK.due("lower", x.loadByte(1, 1, 3, 0), 0xCD);
        CHECK.due("upper", x.loadByte(1, 2, 3, 1), 0xAB);
        CHECK.due("register", x.register(1, 2), 0xAB);
        x.inject(3);
        CHECK.due("lower", x.loadByte(1, 1, 3, 0), 0xCD);
        CHECK.due("origin", x.registerOrigin(1, 1), 0);
        CHECK.due("hops", x.registerHops(1, 1), 1);
        x.loadByte(1, 1, 4, 1);
        CHECK.due("clean", x.registerOrigin(1, 1), Check.NONE);
        x.setMirror(1, true);
        x.inject(4);
        x.loadByte(1, 1, 4, 0);
        CHECK.due("healed", x.healed(), 1);
        CHECK.due("clean", x.registerOrigin(1, 1), Check.NONE);
        CHECK.due("task 4", x.loadByte(4, 0, 0, 2), Check.NO_SUCH);
        CHECK.due("register -1", x.loadByte(0, -1, 0, 0), Check.NO_SUCH);
        CHECK.due("word 32", x.loadByte(0, 0, 32, 0), Check.NO_SUCH);
        Check.stop(x, 0);
        CHECK.due("part -1", x.loadByte(0, 0, 0, -1), Check.BAD_VALUE);
        CHECK.due("part 2", x.loadByte(0, 0, 0, 2), Check.BAD_VALUE);
        CHECK.due("stopped", x.loadByte(0, 0, 0, 0), Check.NOT_POSSIBLE);
    }

    private static void promise12Store() {
        PoisonedMemory x = new PoisonedMemory();
        x.setRegister(2, 1, 321);
        x.inject(17);
        CHECK.due("clean over poisoned", x.store(2, 1, 17), 0);
        CHECK.due("value", x.value(17), 321);
        CHECK.due("origin", x.origin(17), Check.NONE);
        x.setMirror(4, true);
        Check.poisonRegister(x, 2, 1, 0);
        CHECK.due("poisoned over clean", x.store(2, 1, 18), 1);
        CHECK.due("origin", x.origin(18), 1);
        CHECK.due("hops", x.hops(18), 2);
        CHECK.due("second copy", x.mirrorOrigin(18), 1);
        CHECK.due("no fault", x.faults(), 0);
        x.setRegister(2, 1, 7);
        x.store(2, 1, 18);
        CHECK.due("second copy", x.mirrorOrigin(18), Check.NONE);
        CHECK.due("second value", x.mirrorValue(18), 7);
        x.inject(19);
        x.store(2, 1, 19);
        CHECK.due("store does not fetch", x.healed(), 0);
        CHECK.due("task -1", x.store(-1, 0, 0), Check.NO_SUCH);
        CHECK.due("register 4", x.store(0, 4, 0), Check.NO_SUCH);
        Check.stop(x, 0);
        CHECK.due("word 32", x.store(0, 0, 32), Check.NO_SUCH);
        CHECK.due("word -1", x.store(0, 0, -1), Check.NO_SUCH);
        CHECK.due("stopped", x.store(0, 0, 20), Check.NOT_POSSIBLE);
        CHECK.due("nothing stored", x.origin(20), Check.NONE);
    }

    private static void promise13StoreByte() {
        PoisonedMemory x = new PoisonedMemory();
        x.fill(6, 1, 0x1122);
        x.setRegister(0, 0, 0xABCD);
        CHECK.due("lower", x.storeByte(0, 0, 6, 0), 0);
        CHECK.due("value", x.value(6), 0x11CD);
        CHECK.due("upper", x.storeByte(0, 0, 6, 1), 0);
        CHECK.due("value", x.value(6), 0xCDCD);
        CHECK.due("the register stays", x.register(0, 0), 0xABCD);
        Check.stop(x, 1);
        CHECK.due("task -1", x.storeByte(-1, 0, 0, 2), Check.NO_SUCH);
        CHECK.due("register 4", x.storeByte(1, 4, 0, 0), Check.NO_SUCH);
        CHECK.due("word -1", x.storeByte(1, 0, -1, 0), Check.NO_SUCH);
        CHECK.due("part 2", x.storeByte(1, 0, 6, 2), Check.BAD_VALUE);
        CHECK.due("part -1", x.storeByte(1, 0, 6, -1), Check.BAD_VALUE);
        CHECK.due("stopped", x.storeByte(1, 0, 6, 1), Check.NOT_POSSIBLE);
        CHECK.due("nothing stored", x.value(6), 0xCDCD);
    }

    private static void promise13StoreByteKeepsTheMark() {
        PoisonedMemory x = new PoisonedMemory();
        x.setRegister(0, 0, 5);
        x.inject(6);
        CHECK.due("a clean register", x.storeByte(0, 0, 6, 0), 1);
        CHECK.due("the mark stays", x.origin(6), 0);
        CHECK.due("its hops stay", x.hops(6), 0);
        Check.poisonRegister(x, 0, 1, 9);
        CHECK.due("a poisoned register", x.storeByte(0, 1, 6, 1), 1);
        CHECK.due("its mark comes", x.origin(6), 1);
        CHECK.due("its hops", x.hops(6), 2);
        x.fill(7, 1, 0x0203);
        x.setMirror(1, true);
        x.inject(7);
        CHECK.due("the word is healed first", x.storeByte(0, 0, 7, 1), 0);
        CHECK.due("value", x.value(7), 0x0503);
        CHECK.due("second copy", x.mirrorValue(7), 0x0503);
        CHECK.due("healed", x.healed(), 1);
        CHECK.due("poison", x.storeByte(0, 1, 7, 0), 1);
        CHECK.due("second copy", x.mirrorOrigin(7), 1);
    }

    private static void promise14Move() {
        PoisonedMemory x = new PoisonedMemory();
        x.setRegister(1, 2, 88);
        CHECK.due("move", x.move(1, 0, 2), 88);
        CHECK.due("register", x.register(1, 0), 88);
        Check.poisonRegister(x, 1, 3, 4);
        CHECK.due("move", x.move(1, 0, 3), 0);
        CHECK.due("origin", x.registerOrigin(1, 0), 0);
        CHECK.due("hops", x.registerHops(1, 0), 2);
        CHECK.due("onto itself", x.move(1, 0, 0), 0);
        CHECK.due("hops", x.registerHops(1, 0), 3);
        CHECK.due("a clean one onto itself", x.move(1, 2, 2), 88);
        CHECK.due("stays clean", x.registerHops(1, 2), Check.NONE);
        x.move(1, 0, 2);
        CHECK.due("clean", x.registerOrigin(1, 0), Check.NONE);
        CHECK.due("no fault", x.faults(), 0);
        CHECK.due("task 4", x.move(4, 0, 0), Check.NO_SUCH);
        CHECK.due("target -1", x.move(1, -1, 0), Check.NO_SUCH);
        CHECK.due("target 4", x.move(1, 4, 0), Check.NO_SUCH);
        Check.stop(x, 1);
        CHECK.due("source 4", x.move(1, 0, 4), Check.NO_SUCH);
        CHECK.due("source -1", x.move(1, 0, -1), Check.NO_SUCH);
        CHECK.due("stopped", x.move(1, 0, 2), Check.NOT_POSSIBLE);
    }

    private static void promise15Compute() {
        PoisonedMemory x = new PoisonedMemory();
        x.setRegister(0, 0, 65535);
        x.setRegister(0, 1, 3);
        CHECK.due("sum", x.compute(0, 0, 2, 0, 1), 2);
        CHECK.due("target", x.register(0, 2), 2);
        CHECK.due("difference", x.compute(0, 1, 2, 0, 1), 65532);
        CHECK.due("difference below 0", x.compute(0, 1, 2, 1, 0), 4);
        CHECK.due("exclusive or", x.compute(0, 2, 2, 0, 1), 65532);
        CHECK.due("product", x.compute(0, 3, 2, 0, 1), 65533);
        CHECK.due("greatest product", x.compute(0, 3, 2, 0, 0), 1);
        CHECK.due("exclusive or with itself", x.compute(0, 2, 2, 0, 0), 0);
        CHECK.due("the target may be an operand", x.compute(0, 0, 1, 1, 1), 6);
        CHECK.due("operand", x.register(0, 1), 6);
        Check.poisonRegister(x, 0, 3, 1);
        CHECK.due("the target is no use", x.compute(0, 0, 3, 1, 1), 12);
        CHECK.due("the target is clean", x.registerOrigin(0, 3), Check.NONE);
        Check.poisonRegister(x, 0, 3, 1);
        CHECK.due("no use", x.compute(0, 2, 2, 3, 3), 0);
        CHECK.due("no fault", x.faults(), 0);
        CHECK.due("the operand stays poisoned", x.registerOrigin(0, 3), 1);
        CHECK.due("the target is clean", x.registerOrigin(0, 2), Check.NONE);
        CHECK.due("onto itself", x.compute(0, 2, 3, 3, 3), 0);
        CHECK.due("is clean", x.registerOrigin(0, 3), Check.NONE);
    }

    private static void promise15ComputeFaults() {
        PoisonedMemory x = new PoisonedMemory();
        x.setRegister(1, 0, 50);
        Check.poisonRegister(x, 1, 2, 8);
        Check.poisonRegister(x, 1, 3, 9);
        x.setMode(1, Check.SKIP);
        CHECK.due("the second is poisoned", x.compute(1, 0, 0, 0, 2), Check.FAULT);
        CHECK.due("its register", x.log(0, 1), 2);
        CHECK.due("its origin", x.log(0, 2), 0);
        CHECK.due("both are poisoned", x.compute(1, 0, 0, 3, 2), Check.FAULT);
        CHECK.due("the first is named", x.log(0, 1), 3);
        CHECK.due("one fault each", x.faults(), 2);
        CHECK.due("not done", x.register(1, 0), 50);
        CHECK.due("still poisoned", x.registerOrigin(1, 3), 1);
        CHECK.due("running", x.stopped(1), 0);
        CHECK.due("another operator with itself", x.compute(1, 1, 0, 2, 2), Check.FAULT);
        x.setMode(1, Check.STOP);
        CHECK.due("stop", x.compute(1, 2, 0, 2, 3), Check.FAULT);
        CHECK.due("stopped", x.stopped(1), 1);
        CHECK.due("mode in the log", x.log(0, 3), 0);
        CHECK.due("mode in the log before", x.log(1, 3), 1);
        CHECK.due("not done", x.register(1, 0), 50);
        CHECK.due("faults", x.faults(), 4);
        CHECK.due("a fault is recorded in the history", x.undo(), 3);
        CHECK.due("running again", x.stopped(1), 0);
        CHECK.due("faults", x.faults(), 3);
    }

    private static void promise15ComputeZeroes() {
        PoisonedMemory x = new PoisonedMemory();
        x.fill(4, 2, 30);
        x.setMode(0, Check.ZERO);
        x.setRegister(0, 0, 7);
        Check.poisonRegister(x, 0, 1, 4);
        Check.poisonRegister(x, 0, 2, 5);
        Check.poisonRegister(x, 0, 3, 5);
        CHECK.due("a clean operand stays", x.compute(0, 1, 0, 0, 1), 7);
        CHECK.due("zeroed", x.register(0, 1), 0);
        CHECK.due("cleaned", x.registerOrigin(0, 1), Check.NONE);
        Check.poisonRegister(x, 0, 1, 4);
        CHECK.due("both are zeroed", x.compute(0, 0, 0, 2, 1), 0);
        CHECK.due("first", x.registerOrigin(0, 2), Check.NONE);
        CHECK.due("second", x.registerOrigin(0, 1), Check.NONE);
        CHECK.due("first", x.register(0, 2), 0);
        CHECK.due("not used", x.registerOrigin(0, 3), 2);
        CHECK.due("one fault each", x.faults(), 2);
        CHECK.due("the origin before it was cleaned", x.log(0, 2), 1);
        CHECK.due("mode", x.log(0, 3), 2);
    }

    private static void promise15ComputeErrors() {
        PoisonedMemory x = new PoisonedMemory();
        CHECK.due("task -1", x.compute(-1, 4, 0, 0, 0), Check.NO_SUCH);
        CHECK.due("task 4", x.compute(4, 0, 0, 0, 0), Check.NO_SUCH);
        CHECK.due("target 4", x.compute(0, 4, 4, 0, 0), Check.NO_SUCH);
        CHECK.due("first -1", x.compute(0, 0, 0, -1, 0), Check.NO_SUCH);
        CHECK.due("second 4", x.compute(0, 0, 0, 0, 4), Check.NO_SUCH);
        Check.stop(x, 0);
        CHECK.due("operator -1", x.compute(0, -1, 0, 0, 0), Check.BAD_VALUE);
        CHECK.due("operator 4", x.compute(0, 4, 0, 0, 0), Check.BAD_VALUE);
        CHECK.due("stopped", x.compute(0, 0, 0, 0, 0), Check.NOT_POSSIBLE);
        CHECK.due("stopped, without a use", x.compute(0, 2, 1, 1, 1), Check.NOT_POSSIBLE);
        CHECK.due("no further fault", x.faults(), 1);
    }

    private static void promise16LoadAt() {
        PoisonedMemory x = new PoisonedMemory();
        x.fill(31, 1, 600);
        x.fill(0, 1, 900);
        x.setRegister(0, 1, 65535);
        CHECK.due("modulo 32", x.loadAt(0, 2, 1), 600);
        CHECK.due("target", x.register(0, 2), 600);
        x.inject(31);
        CHECK.due("poisoned word", x.loadAt(0, 1, 1), 600);
        CHECK.due("target is the address", x.register(0, 1), 600);
        CHECK.due("origin", x.registerOrigin(0, 1), 0);
        CHECK.due("hops", x.registerHops(0, 1), 1);
        x.setMode(0, Check.SKIP);
        CHECK.due("poisoned address", x.loadAt(0, 3, 1), Check.FAULT);
        CHECK.due("not done", x.register(0, 3), 0);
        x.setMode(0, Check.ZERO);
        CHECK.due("zeroed address", x.loadAt(0, 3, 1), 900);
        CHECK.due("address", x.register(0, 1), 0);
        CHECK.due("address", x.registerOrigin(0, 1), Check.NONE);
        x.setMirror(0, true);
        x.inject(0);
        CHECK.due("fetched", x.loadAt(0, 3, 1), 900);
        CHECK.due("healed", x.healed(), 1);
        CHECK.due("faults", x.faults(), 2);
        x.inject(0);
        x.load(0, 1, 31);
        x.setMode(0, Check.STOP);
        CHECK.due("stop", x.loadAt(0, 1, 1), Check.FAULT);
        CHECK.due("stopped", x.stopped(0), 1);
        CHECK.due("nothing was fetched", x.origin(0), 2);
    }

    private static void promise16LoadAtErrors() {
        PoisonedMemory x = new PoisonedMemory();
        Check.stop(x, 3);
        CHECK.due("task -1", x.loadAt(-1, 0, 0), Check.NO_SUCH);
        CHECK.due("task 4", x.loadAt(4, 0, 0), Check.NO_SUCH);
        CHECK.due("target -1", x.loadAt(3, -1, 0), Check.NO_SUCH);
        CHECK.due("target 4", x.loadAt(3, 4, 0), Check.NO_SUCH);
        CHECK.due("address -1", x.loadAt(3, 0, -1), Check.NO_SUCH);
        CHECK.due("address 4", x.loadAt(3, 0, 4), Check.NO_SUCH);
        CHECK.due("stopped", x.loadAt(3, 0, 1), Check.NOT_POSSIBLE);
    }

    private static void promise17Output() {
        PoisonedMemory x = new PoisonedMemory();
        x.setRegister(2, 3, 4321);
        CHECK.due("output", x.output(2, 3), 4321);
        x.fill(9, 1, 55);
        Check.poisonRegister(x, 2, 3, 9);
        x.setMode(2, Check.SKIP);
        CHECK.due("skip", x.output(2, 3), Check.FAULT);
        CHECK.due("still poisoned", x.registerOrigin(2, 3), 0);
        CHECK.due("value", x.register(2, 3), 55);
        x.setMode(2, Check.ZERO);
        CHECK.due("zero", x.output(2, 3), 0);
        CHECK.due("clean", x.registerOrigin(2, 3), Check.NONE);
        CHECK.due("clean now", x.output(2, 3), 0);
        CHECK.due("faults", x.faults(), 2);
        Check.poisonRegister(x, 2, 3, 9);
        x.setMode(2, Check.STOP);
        CHECK.due("stop", x.output(2, 3), Check.FAULT);
        CHECK.due("stopped", x.stopped(2), 1);
        CHECK.due("task in the log", x.log(0, 0), 2);
    }

    private static void promise17OutputErrors() {
        PoisonedMemory x = new PoisonedMemory();
        Check.stop(x, 3);
        CHECK.due("task -1", x.output(-1, 0), Check.NO_SUCH);
        CHECK.due("task 4", x.output(4, 0), Check.NO_SUCH);
        CHECK.due("register -1", x.output(3, -1), Check.NO_SUCH);
        CHECK.due("register 4", x.output(3, 4), Check.NO_SUCH);
        CHECK.due("stopped", x.output(3, 0), Check.NOT_POSSIBLE);
        CHECK.due("stopped, a clean register", x.output(3, 1), Check.NOT_POSSIBLE);
        CHECK.due("no further fault", x.faults(), 1);
    }
}
