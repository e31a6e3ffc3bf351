/** Promises 1 to 6: a new object, inject, copyBlock, fill, setMirror and scrub. */
public final class MemoryActionsTest {
    private static final Check CHECK = new Check("MemoryActionsTest");

    public static void main(String[] args) {
        promise1NewObject();
        promise2Inject();
        promise2InjectLeavesValueAndSecondCopy();
        promise2InjectErrors();
        promise3CopyBlock();
        promise3CopyBlockOverlap();
        promise3CopyBlockFetchesAndMirrors();
        promise3CopyBlockHopsEndAt99();
        promise3CopyBlockErrors();
        promise4Fill();
        promise4FillErrors();
        promise5SetMirror();
        promise5SetMirrorAnew();
        promise5SetMirrorErrors();
        promise6Scrub();
        promise6ScrubErrors();
        CHECK.finish();
    }

    private static void promise1NewObject() {
        PoisonedMemory x = new PoisonedMemory();
        for (int word = 0; word < 32; word++) {
            CHECK.due("value", x.value(word), 0);
            CHECK.due("origin", x.origin(word), Check.NONE);
            CHECK.due("hops", x.hops(word), Check.NONE);
            CHECK.due("mirrorValue", x.mirrorValue(word), Check.NONE);
            CHECK.due("mirrorOrigin", x.mirrorOrigin(word), Check.NONE);
        }
        for (int task = 0; task < 4; task++) {
            CHECK.due("mode", x.mode(task), 0);
            CHECK.due("stopped", x.stopped(task), 0);
            for (int register = 0; register < 4; register++) {
                CHECK.due("register", x.register(task, register), 0);
                CHECK.due("registerOrigin", x.registerOrigin(task, register), Check.NONE);
                CHECK.due("registerHops", x.registerHops(task, register), Check.NONE);
            }
        }
        CHECK.due("injections", x.injections(), 0);
        CHECK.due("faults", x.faults(), 0);
        CHECK.due("healed", x.healed(), 0);
        CHECK.due("log", x.log(0, 0), Check.NONE);
        CHECK.due("undo", x.undo(), Check.NONE);
        CHECK.due("fault", x.fault(), 0);
        CHECK.due("clearText", x.clearText(), 0);
    }

    private static void promise2Inject() {
        PoisonedMemory x = new PoisonedMemory();
        CHECK.due("first origin", x.inject(31), 0);
        CHECK.due("second origin", x.inject(0), 1);
        CHECK.due("hops of an injected word", x.hops(31), 0);
        x.load(0, 0, 31);
        x.store(0, 0, 5);
        CHECK.due("hops before", x.hops(5), 2);
        CHECK.due("a poisoned word is injected", x.inject(5), 2);
        CHECK.due("its origin", x.origin(5), 2);
        CHECK.due("its hops", x.hops(5), 0);
    }

    private static void promise2InjectLeavesValueAndSecondCopy() {
        PoisonedMemory x = new PoisonedMemory();
        x.fill(8, 1, 77);
        x.setMirror(2, true);
        x.inject(8);
        CHECK.due("value stays", x.value(8), 77);
        CHECK.due("second copy stays clean", x.mirrorOrigin(8), Check.NONE);
        CHECK.due("second copy keeps its value", x.mirrorValue(8), 77);
        x.setMirror(2, true);
        x.inject(8);
        CHECK.due("second copy keeps its mark", x.mirrorOrigin(8), 0);
    }

    private static void promise2InjectErrors() {
        PoisonedMemory x = new PoisonedMemory();
        CHECK.due("inject(-1)", x.inject(-1), Check.NO_SUCH);
        CHECK.due("inject(32)", x.inject(32), Check.NO_SUCH);
        for (int i = 0; i < 20; i++) {
            CHECK.due("inject " + i, x.inject(i), i);
        }
        CHECK.due("inject the 21st", x.inject(20), Check.TOO_MANY);
        CHECK.due("NO_SUCH comes first", x.inject(32), Check.NO_SUCH);
        CHECK.due("nothing was injected", x.origin(20), Check.NONE);
        CHECK.due("injections", x.injections(), 20);
        x.undo();
        CHECK.due("after undo there is room", x.inject(20), 19);
    }

    private static void promise3CopyBlock() {
        PoisonedMemory x = new PoisonedMemory();
        x.fill(0, 1, 11);
        x.fill(1, 1, 22);
        x.fill(10, 3, 99);
        x.inject(0);
        x.inject(12);
        CHECK.due("copyBlock", x.copyBlock(0, 10, 2), 1);
        CHECK.due("value", x.value(10), 11);
        CHECK.due("value", x.value(11), 22);
        CHECK.due("origin", x.origin(10), 0);
        CHECK.due("hops", x.hops(10), 1);
        CHECK.due("clean", x.origin(11), Check.NONE);
        CHECK.due("beyond the block", x.origin(12), 1);
        CHECK.due("beyond the block", x.value(12), 99);
        CHECK.due("a clean source cleans", x.copyBlock(2, 10, 3), 0);
        CHECK.due("origin", x.origin(10), Check.NONE);
        CHECK.due("origin", x.origin(12), Check.NONE);
        CHECK.due("sources stay", x.hops(0), 0);
        CHECK.due("16 words", x.copyBlock(0, 16, 16), 1);
        CHECK.due("16 words from 16", x.copyBlock(16, 16, 16), 1);
        CHECK.due("hops onto itself", x.hops(16), 2);
    }

    private static void promise3CopyBlockOverlap() {
        PoisonedMemory x = new PoisonedMemory();
        for (int word = 0; word < 6; word++) {
            x.fill(word, 1, 100 + word);
        }
        x.inject(0);
        CHECK.due("upwards", x.copyBlock(0, 1, 4), 1);
        for (int word = 1; word < 5; word++) {
            CHECK.due("value " + word, x.value(word), 99 + word);
        }
        CHECK.due("only the neighbour is marked", x.origin(1), 0);
        CHECK.due("one hop", x.hops(1), 1);
        CHECK.due("not carried on", x.origin(2), Check.NONE);
        CHECK.due("downwards", x.copyBlock(1, 0, 4), 1);
        CHECK.due("hops", x.hops(0), 2);
        CHECK.due("value", x.value(0), 100);
        CHECK.due("value", x.value(3), 103);
    }

    private static void promise3CopyBlockFetchesAndMirrors() {
        PoisonedMemory x = new PoisonedMemory();
        x.fill(4, 4, 7);
        x.setMirror(1, true);
        x.inject(4);
        x.inject(6);
        x.inject(7);
        CHECK.due("copyBlock", x.copyBlock(4, 6, 1), 0);
        CHECK.due("only sources are fetched", x.healed(), 1);
        CHECK.due("the source is healed", x.origin(4), Check.NONE);
        CHECK.due("a target is overwritten", x.origin(6), Check.NONE);
        CHECK.due("another word is left", x.origin(7), 2);
        x.fill(0, 1, 500);
        x.inject(0);
        CHECK.due("into a mirrored page", x.copyBlock(0, 5, 1), 1);
        CHECK.due("second value", x.mirrorValue(5), 500);
        CHECK.due("second mark", x.mirrorOrigin(5), 3);
        CHECK.due("a poisoned second copy heals nothing", x.copyBlock(5, 9, 1), 1);
        CHECK.due("hops", x.hops(9), 2);
        CHECK.due("healed", x.healed(), 1);
    }

    private static void promise3CopyBlockHopsEndAt99() {
        PoisonedMemory x = new PoisonedMemory();
        x.inject(3);
        for (int i = 1; i <= 99; i++) {
            x.copyBlock(3, 3, 1);
        }
        CHECK.due("99 copies", x.hops(3), 99);
        x.copyBlock(3, 3, 1);
        CHECK.due("100 copies", x.hops(3), 99);
        x.load(0, 0, 3);
        CHECK.due("load", x.registerHops(0, 0), 99);
        x.move(0, 1, 0);
        CHECK.due("move", x.registerHops(0, 1), 99);
    }

    private static void promise3CopyBlockErrors() {
        PoisonedMemory x = new PoisonedMemory();
        CHECK.due("from -1", x.copyBlock(-1, 0, 1), Check.NO_SUCH);
        CHECK.due("from 32", x.copyBlock(32, 0, 1), Check.NO_SUCH);
        CHECK.due("to -1", x.copyBlock(0, -1, 1), Check.NO_SUCH);
        CHECK.due("to 32", x.copyBlock(0, 32, 1), Check.NO_SUCH);
        CHECK.due("from -1, two words", x.copyBlock(-1, 0, 2), Check.NO_SUCH);
        CHECK.due("to -1, two words", x.copyBlock(0, -1, 2), Check.NO_SUCH);
        CHECK.due("NO_SUCH before BAD_VALUE", x.copyBlock(0, 32, 0), Check.NO_SUCH);
        CHECK.due("NO_SUCH before BAD_VALUE", x.copyBlock(32, 0, 0), Check.NO_SUCH);
        CHECK.due("words 0", x.copyBlock(0, 0, 0), Check.BAD_VALUE);
        CHECK.due("words 17", x.copyBlock(0, 0, 17), Check.BAD_VALUE);
        CHECK.due("words least", x.copyBlock(0, 0, Integer.MIN_VALUE), Check.BAD_VALUE);
        CHECK.due("words most", x.copyBlock(31, 31, Integer.MAX_VALUE), Check.BAD_VALUE);
        CHECK.due("BAD_VALUE before the last word", x.copyBlock(31, 31, 17), Check.BAD_VALUE);
        CHECK.due("last source above 31", x.copyBlock(17, 0, 16), Check.NO_SUCH);
        CHECK.due("last target above 31", x.copyBlock(0, 17, 16), Check.NO_SUCH);
        CHECK.due("last words 31", x.copyBlock(31, 31, 1), 0);
        CHECK.due("one action stands in the history", x.undo(), 0);
    }

    private static void promise4Fill() {
        PoisonedMemory x = new PoisonedMemory();
        x.setMirror(0, true);
        x.inject(1);
        x.inject(2);
        x.inject(4);
        CHECK.due("poisoned before", x.fill(1, 2, 65535), 2);
        CHECK.due("value", x.value(2), 65535);
        CHECK.due("clean", x.origin(1), Check.NONE);
        CHECK.due("second copy", x.mirrorValue(2), 65535);
        CHECK.due("not before", x.value(0), 0);
        CHECK.due("not beyond", x.value(3), 0);
        CHECK.due("healed", x.healed(), 0);
        x.inject(3);
        x.setMirror(0, true);
        CHECK.due("a poisoned second copy", x.mirrorOrigin(3), 3);
        CHECK.due("fill", x.fill(3, 1, 0), 1);
        CHECK.due("is clean too", x.mirrorOrigin(3), Check.NONE);
        CHECK.due("16 words", x.fill(0, 16, 1), 1);
        CHECK.due("the last 16", x.fill(16, 16, 2), 0);
        CHECK.due("the last word", x.value(31), 2);
    }

    private static void promise4FillErrors() {
        PoisonedMemory x = new PoisonedMemory();
        CHECK.due("word -1", x.fill(-1, 1, 0), Check.NO_SUCH);
        CHECK.due("word 32", x.fill(32, 0, -1), Check.NO_SUCH);
        CHECK.due("words 0", x.fill(0, 0, 0), Check.BAD_VALUE);
        CHECK.due("words 17", x.fill(0, 17, 0), Check.BAD_VALUE);
        CHECK.due("value -1", x.fill(0, 1, -1), Check.BAD_VALUE);
        CHECK.due("value 65536", x.fill(0, 1, 65536), Check.BAD_VALUE);
        CHECK.due("BAD_VALUE before the last word", x.fill(31, 2, 65536), Check.BAD_VALUE);
        CHECK.due("last word 32", x.fill(17, 16, 5), Check.NO_SUCH);
        CHECK.due("nothing was written", x.value(17), 0);
        CHECK.due("nothing was recorded", x.undo(), Check.NONE);
    }

    private static void promise5SetMirror() {
        PoisonedMemory x = new PoisonedMemory();
        x.fill(28, 4, 9);
        x.inject(29);
        CHECK.due("first mirror", x.setMirror(7, true), 1);
        CHECK.due("second mirror", x.setMirror(0, true), 2);
        CHECK.due("again", x.setMirror(0, true), 2);
        CHECK.due("value", x.mirrorValue(31), 9);
        CHECK.due("mark", x.mirrorOrigin(29), 0);
        CHECK.due("no other page", x.mirrorValue(27), Check.NONE);
        CHECK.due("no longer", x.setMirror(0, false), 1);
        CHECK.due("never was", x.setMirror(3, false), 1);
        CHECK.due("no second copy", x.mirrorValue(0), Check.NONE);
        CHECK.due("none left", x.setMirror(7, false), 0);
        CHECK.due("no second copy", x.mirrorOrigin(29), Check.NONE);
    }

    private static void promise5SetMirrorAnew() {
        PoisonedMemory x = new PoisonedMemory();
        x.setMirror(1, true);
        x.inject(4);
        CHECK.due("anew", x.setMirror(1, true), 1);
        CHECK.due("the mark is in the second copy", x.mirrorOrigin(4), 0);
        CHECK.due("so nothing heals", x.scrub(1), 0);
        x.setMirror(1, false);
        x.fill(4, 4, 3);
        x.setMirror(1, true);
        CHECK.due("what was written between", x.mirrorValue(4), 3);
        CHECK.due("and its cleanness", x.mirrorOrigin(4), Check.NONE);
    }

    private static void promise5SetMirrorErrors() {
        PoisonedMemory x = new PoisonedMemory();
        CHECK.due("page -1", x.setMirror(-1, true), Check.NO_SUCH);
        CHECK.due("page 8", x.setMirror(8, false), Check.NO_SUCH);
        CHECK.due("nothing was recorded", x.undo(), Check.NONE);
    }

    private static void promise6Scrub() {
        PoisonedMemory x = new PoisonedMemory();
        x.fill(8, 4, 21);
        x.setMirror(2, true);
        x.inject(8);
        x.inject(11);
        x.inject(12);
        CHECK.due("a page without mirror", x.scrub(3), 0);
        CHECK.due("stays poisoned", x.origin(12), 2);
        CHECK.due("scrub", x.scrub(2), 2);
        CHECK.due("clean", x.origin(8), Check.NONE);
        CHECK.due("clean", x.hops(11), Check.NONE);
        CHECK.due("value", x.value(11), 21);
        CHECK.due("healed", x.healed(), 2);
        CHECK.due("scrub again", x.scrub(2), 0);
        CHECK.due("undo it", x.undo(), 3);
        CHECK.due("undo the first", x.undo(), 2);
        CHECK.due("healed is a part of the state", x.healed(), 0);
        CHECK.due("poisoned again", x.origin(8), 0);
    }

    private static void promise6ScrubErrors() {
        PoisonedMemory x = new PoisonedMemory();
        CHECK.due("page -1", x.scrub(-1), Check.NO_SUCH);
        CHECK.due("page 8", x.scrub(8), Check.NO_SUCH);
        CHECK.due("nothing was recorded", x.undo(), Check.NONE);
        CHECK.due("page 7", x.scrub(7), 0);
        CHECK.due("was recorded", x.undo(), 0);
    }
}
