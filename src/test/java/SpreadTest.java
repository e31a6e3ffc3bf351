/** Promises 38 to 47: how far a poison has spread, and what would be. */
public final class SpreadTest {
    private static final Check CHECK = new Check("SpreadTest");

    public static void main(String[] args) {
        promise38Poisoned();
        promise39Carriers();
        promise40Farthest();
        promise41Widest();
        promise42AtRisk();
        promise43PoisonShare();
        promise44PoisonedIfScrubbed();
        promise45BestScrub();
        promise46CarriersWithout();
        promise47StopsAt();
        promise47StopsAtEdges();
        CHECK.finish();
    }

    private static void promise38Poisoned() {
        PoisonedMemory x = new PoisonedMemory();
        x.inject(28);
        x.inject(31);
        x.inject(27);
        x.load(0, 0, 28);
        CHECK.due("page 7", x.poisoned(7), 2);
        CHECK.due("page 6", x.poisoned(6), 1);
        CHECK.due("page 0", x.poisoned(0), 0);
        x.copyBlock(28, 0, 4);
        CHECK.due("page 0", x.poisoned(0), 2);
        x.setMirror(1, true);
        x.inject(4);
        CHECK.due("what could be healed counts", x.poisoned(1), 1);
        CHECK.due("page -1", x.poisoned(-1), Check.NO_SUCH);
        CHECK.due("page 8", x.poisoned(8), Check.NO_SUCH);
    }

    private static void promise39Carriers() {
        PoisonedMemory x = new PoisonedMemory();
        x.inject(5);
        CHECK.due("the word", x.carriers(0), 1);
        x.load(0, 0, 5);
        x.load(3, 3, 5);
        CHECK.due("registers", x.carriers(0), 3);
        x.setMirror(1, true);
        CHECK.due("second copies do not count", x.carriers(0), 3);
        x.inject(5);
        CHECK.due("the second copy alone", x.carriers(0), 2);
        CHECK.due("the new one", x.carriers(1), 1);
        x.restart(0);
        x.restart(3);
        CHECK.due("none", x.carriers(0), 0);
        CHECK.due("origin -1", x.carriers(-1), Check.NO_SUCH);
        CHECK.due("origin 2", x.carriers(2), Check.NO_SUCH);
        CHECK.due("NONE is no origin", x.carriers(Check.NONE), Check.NO_SUCH);
    }

    private static void promise40Farthest() {
        PoisonedMemory x = new PoisonedMemory();
        x.inject(5);
        CHECK.due("0 hops", x.farthest(0), 0);
        x.load(0, 0, 5);
        CHECK.due("a register", x.farthest(0), 1);
        x.store(0, 0, 6);
        CHECK.due("a word", x.farthest(0), 2);
        x.inject(7);
        CHECK.due("another origin", x.farthest(1), 0);
        x.fill(5, 2, 0);
        CHECK.due("the register is left", x.farthest(0), 1);
        x.setRegister(0, 0, 0);
        CHECK.due("none is left", x.farthest(0), Check.NONE);
        CHECK.due("origin 2", x.farthest(2), Check.NO_SUCH);
        CHECK.due("origin -1", x.farthest(-1), Check.NO_SUCH);
        x.setMirror(1, true);
        x.inject(7);
        CHECK.due("only in a second copy", x.farthest(1), Check.NONE);
    }

    private static void promise41Widest() {
        PoisonedMemory x = new PoisonedMemory();
        CHECK.due("none", x.widest(), Check.NONE);
        x.inject(5);
        x.inject(6);
        CHECK.due("of two the lower one", x.widest(), 0);
        x.load(0, 0, 6);
        CHECK.due("registers count", x.widest(), 1);
        x.inject(7);
        x.load(1, 0, 7);
        CHECK.due("of two the lower one", x.widest(), 1);
        x.load(1, 1, 7);
        CHECK.due("the last one", x.widest(), 2);
        x.fill(5, 3, 0);
        x.restart(1);
        CHECK.due("only a register", x.widest(), 1);
        x.restart(0);
        CHECK.due("none again", x.widest(), Check.NONE);
    }

    private static void promise42AtRisk() {
        PoisonedMemory x = new PoisonedMemory();
        CHECK.due("none", x.atRisk(), 0);
        Check.poisonRegister(x, 0, 3, 1);
        x.load(3, 0, 1);
        CHECK.due("0 and 3", x.atRisk(), 9);
        x.load(2, 1, 1);
        x.load(2, 2, 1);
        CHECK.due("0, 2 and 3", x.atRisk(), 13);
        x.output(2, 1);
        CHECK.due("a stopped one does not count", x.atRisk(), 9);
        x.setRegister(0, 3, 0);
        CHECK.due("a clean one does not count", x.atRisk(), 8);
        x.setMode(3, Check.ZERO);
        CHECK.due("the mode does not matter", x.atRisk(), 8);
        x.load(1, 0, 1);
        CHECK.due("1 and 3", x.atRisk(), 10);
    }

    private static void promise43PoisonShare() {
        PoisonedMemory x = new PoisonedMemory();
        CHECK.due("none", x.poisonShare(), 0.0);
        x.inject(31);
        x.load(0, 0, 31);
        CHECK.due("one word, no registers", x.poisonShare(), 0.03125);
        x.copyBlock(31, 0, 1);
        CHECK.due("two words", x.poisonShare(), 0.0625);
        for (int word = 1; word < 31; word++) {
            x.store(0, 0, word);
        }
        CHECK.due("all words", x.poisonShare(), 1.0);
    }

    private static void promise44PoisonedIfScrubbed() {
        PoisonedMemory x = new PoisonedMemory();
        CHECK.due("none", x.poisonedIfScrubbed(), 0);
        x.inject(0);
        x.inject(4);
        x.setMirror(1, true);
        x.setMirror(7, true);
        x.inject(5);
        x.inject(31);
        CHECK.due("an unmirrored page and a poisoned second copy", x.poisonedIfScrubbed(), 2);
        x.setMirror(7, false);
        CHECK.due("one more without its mirror", x.poisonedIfScrubbed(), 3);
        CHECK.due("nothing was scrubbed", x.poisoned(1), 2);
        x.scrub(1);
        CHECK.due("scrubbing keeps to it", x.poisonedIfScrubbed(), 3);
    }

    private static void promise45BestScrub() {
        PoisonedMemory x = new PoisonedMemory();
        CHECK.due("none", x.bestScrub(), Check.NONE);
        x.inject(0);
        x.inject(1);
        x.setMirror(0, true);
        CHECK.due("poisoned second copies", x.bestScrub(), Check.NONE);
        x.setMirror(3, true);
        x.setMirror(7, true);
        x.inject(30);
        CHECK.due("page 7", x.bestScrub(), 7);
        x.inject(12);
        CHECK.due("of two the lower one", x.bestScrub(), 3);
        x.inject(31);
        CHECK.due("the one with more", x.bestScrub(), 7);
        x.inject(16);
        x.inject(17);
        x.inject(18);
        CHECK.due("not an unmirrored one", x.bestScrub(), 7);
    }

    private static void promise46CarriersWithout() {
        PoisonedMemory x = new PoisonedMemory();
        x.inject(5);
        x.inject(6);
        x.copyBlock(5, 10, 1);
        x.load(0, 0, 5);
        CHECK.due("a carrier", x.carriersWithout(0, 5), 2);
        CHECK.due("another carrier", x.carriersWithout(0, 10), 2);
        CHECK.due("a word of another poison", x.carriersWithout(0, 6), 3);
        CHECK.due("a clean word", x.carriersWithout(0, 31), 3);
        CHECK.due("the last carrier", x.carriersWithout(1, 6), 0);
        CHECK.due("nothing became clean", x.carriers(0), 3);
        CHECK.due("origin -1", x.carriersWithout(-1, 0), Check.NO_SUCH);
        CHECK.due("origin 2", x.carriersWithout(2, 0), Check.NO_SUCH);
        CHECK.due("word -1", x.carriersWithout(0, -1), Check.NO_SUCH);
        CHECK.due("word 32", x.carriersWithout(0, 32), Check.NO_SUCH);
        CHECK.due("NONE is no origin", x.carriersWithout(Check.NONE, 0), Check.NO_SUCH);
    }

    private static void promise47StopsAt() {
        PoisonedMemory x = new PoisonedMemory();
        CHECK.due("empty text", x.stopsAt(), Check.BAD_TEXT);
        Check.type(x, "I1;");
        CHECK.due("not complete", x.stopsAt(), Check.BAD_TEXT);
        Check.type(x, "I1;L11,1;O10;O11;O10");
        CHECK.due("the fourth", x.stopsAt(), 3);
        CHECK.due("nothing was done", x.injections(), 0);
        CHECK.due("nothing was stopped", x.stopped(1), 0);
        CHECK.due("no fault", x.faults(), 0);
        CHECK.due("nothing was recorded", x.undo(), Check.NONE);
        x.setMode(1, Check.SKIP);
        CHECK.due("skip", x.stopsAt(), Check.NONE);
        x.setMode(1, Check.ZERO);
        CHECK.due("zero", x.stopsAt(), Check.NONE);
        Check.type(x, "I1;L11,1;L01,1;A13211;O11;A00010;O21");
        CHECK.due("only the task with mode 0", x.stopsAt(), 5);
        x.setMode(1, Check.STOP);
        CHECK.due("now the task 1", x.stopsAt(), 3);
    }

    private static void promise47StopsAtEdges() {
        PoisonedMemory x = new PoisonedMemory();
        Check.stop(x, 0);
        Check.poisonRegister(x, 1, 0, 3);
        Check.type(x, "O10");
        CHECK.due("the first", x.stopsAt(), 0);
        Check.type(x, "L00,1;O10");
        CHECK.due("run ends before", x.stopsAt(), Check.NONE);
        Check.type(x, "V20=1;O10;L00,1");
        CHECK.due("run ends behind", x.stopsAt(), 1);
        Check.type(x, "V10=1;O10");
        CHECK.due("cleaned before", x.stopsAt(), Check.NONE);
        Check.type(x, "A12100;O10");
        CHECK.due("no use", x.stopsAt(), 1);
        x.setMirror(2, true);
        Check.type(x, "I8;L30,8;O30");
        CHECK.due("healed before", x.stopsAt(), Check.NONE);
        CHECK.due("healed nothing", x.healed(), 0);
        x.setMirror(2, false);
        CHECK.due("not healed", x.stopsAt(), 2);
        for (int i = x.injections(); i < 20; i++) {
            x.inject(31);
        }
        CHECK.due("no room for the injection", x.stopsAt(), Check.NONE);
    }
}
