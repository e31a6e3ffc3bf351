/** The sentences of the promises 38 to 47: how far a poison has spread, and what would be. */
final class BoundarySpread extends Boundary {
    BoundarySpread(Sentences document) {
        super(document);
    }

    @Override
    void all() {
        promise38();
        promise39();
        promise40();
        promise41();
        promise42();
        promise43();
        promise44();
        promise45();
        promise46();
        promise47();
        promise47Answers();
    }

    private void promise38() {
        section("Promise 38");
        plain("Counts the poisoned words.");
        says("`page`: 0 to 7", x -> {
            range("page", 0, 7, NO_SUCH, x::poisoned);
            x.inject(0);
            x.inject(3);
            x.inject(31);
            due("page 0", x.poisoned(0), 2);
            due("page 1", x.poisoned(1), 0);
            due("page 6", x.poisoned(6), 0);
            due("page 7", x.poisoned(7), 1);
        });
        says("Returns the number of poisoned words of the page;", x -> {
            x.inject(7);
            x.inject(12);
            due("the words around the page", x.poisoned(2), 0);
            for (int word = 8; word < 12; word++) {
                x.inject(word);
                due("one more", x.poisoned(2), word - 7);
            }
            x.inject(8);
            due("the same word again", x.poisoned(2), 4);
            x.fill(8, 4, 0);
            due("all are clean", x.poisoned(2), 0);
            x.setMirror(2, true);
            x.inject(9);
            due("a word that would be healed", x.poisoned(2), 1);
            x.setMirror(2, true);
            x.inject(9);
            due("the second copy does not count", x.poisoned(2), 1);
        });
        says("NO_SUCH if there is no such page.", x -> {
            due("-1", x.poisoned(-1), NO_SUCH);
            due("0", x.poisoned(0), 0);
            due("7", x.poisoned(7), 0);
            due("8", x.poisoned(8), NO_SUCH);
            due("31 is a word, but no page", x.poisoned(31), NO_SUCH);
        });
    }

    /** Asks for an injection that there is, for the next one, and beyond, while there are 0, 1, 2, .. 20 injections. */
    private void noSuchInjection(String sentence, TaskCall call) {
        says(sentence, x -> {
            for (int count = 0; count <= 20; count++) {
                due("the next of " + count, call.of(x, count), NO_SUCH);
                if (count > 0) {
                    accepted("the last of " + count, call.of(x, count - 1));
                    accepted("the first of " + count, call.of(x, 0));
                }
                x.inject(count);
            }
            range("origin", 0, 19, NO_SUCH, origin -> call.of(x, origin));
            due("NONE is no origin, though clean words have it as an answer", call.of(x, NONE), NO_SUCH);
            x.fill(0, 1, 0);
            accepted("an injection whose poison is gone", call.of(x, 0));
        });
    }

    private void promise39() {
        section("Promise 39");
        plain("Counts the carriers of a poison.");
        noSuchInjection("`origin`: number of an injection", PoisonedMemory::carriers);
        says("Returns the number of words and registers whose marks have this origin", x -> {
            x.inject(0);
            due("one word", x.carriers(0), 1);
            x.copyBlock(0, 31, 1);
            due("the last word", x.carriers(0), 2);
            x.load(0, 0, 0);
            x.load(3, 3, 0);
            due("the first and the last register", x.carriers(0), 4);
            x.inject(1);
            due("another origin", x.carriers(1), 1);
            due("the first", x.carriers(0), 4);
            x.restart(0);
            x.restart(3);
            x.fill(31, 1, 0);
            x.inject(0);
            due("none", x.carriers(0), 0);
            PoisonedMemory y = new PoisonedMemory();
            everywhere(y);
            due("all words and registers", y.carriers(0), 48);
        });
        says("(second copies do not count);", x -> {
            x.inject(0);
            x.setMirror(0, true);
            due("the word", x.carriers(0), 1);
            x.inject(0);
            due("only the second copy", x.carriers(0), 0);
            due("its new origin", x.carriers(1), 1);
        });
        noSuchInjection("NO_SUCH if there is no such injection.", PoisonedMemory::carriers);
    }

    /** All words and all registers get the mark of the word 0. */
    private static void everywhere(PoisonedMemory x) {
        x.inject(0);
        for (int word = 1; word < 32; word++) {
            x.copyBlock(0, word, 1);
        }
        for (int task = 0; task < 4; task++) {
            for (int register = 0; register < 4; register++) {
                x.load(task, register, 0);
            }
        }
    }

    private void promise40() {
        section("Promise 40");
        plain("Returns the greatest number of hops of a poison.");
        noSuchInjection("`origin`: number of an injection", PoisonedMemory::farthest);
        says("Returns the greatest number of hops of the words and registers whose marks have this origin;", x -> {
            x.inject(0);
            due("0 hops", x.farthest(0), 0);
            x.copyBlock(0, 31, 1);
            due("the last word", x.farthest(0), 1);
            x.load(3, 3, 31);
            due("the last register", x.farthest(0), 2);
            x.load(0, 0, 0);
            due("a register with fewer hops", x.farthest(0), 2);
            x.inject(1);
            due("another origin", x.farthest(1), 0);
            x.restart(3);
            due("the words are left", x.farthest(0), 1);
            for (int hops = 2; hops <= 99; hops++) {
                x.copyBlock(31, 31, 1);
                due("hops", x.farthest(0), hops);
            }
            x.copyBlock(31, 31, 1);
            due("99 hops", x.farthest(0), 99);
            due("the other origin", x.farthest(1), 0);
        });
        noSuchInjection("NO_SUCH if there is no such injection;", PoisonedMemory::farthest);
        says("NONE if there are none.", x -> {
            x.inject(0);
            due("a word with 0 hops is one", x.farthest(0), 0);
            x.load(0, 0, 0);
            x.fill(0, 1, 0);
            due("only a register", x.farthest(0), 1);
            x.setRegister(0, 0, 0);
            due("none", x.farthest(0), NONE);
            x.inject(4);
            x.setMirror(1, true);
            x.inject(4);
            due("only a second copy", x.farthest(1), NONE);
        });
    }

    private void promise41() {
        section("Promise 41");
        says("Finds the injection with the most carriers;", x -> {
            for (int word = 0; word < 20; word++) {
                x.inject(word);
            }
            x.load(3, 3, 19);
            due("the last injection, by a register", x.widest(), 19);
            x.copyBlock(0, 30, 1);
            x.copyBlock(0, 31, 1);
            due("the first injection, by words", x.widest(), 0);
            x.load(3, 2, 19);
            x.load(3, 1, 19);
            due("one carrier more", x.widest(), 19);
            x.fill(0, 16, 0);
            x.fill(16, 16, 0);
            due("only registers", x.widest(), 19);
            x.inject(0);
            due("the injection was refused", x.widest(), 19);
        });
        says("of several, the one with the lowest number.", x -> {
            x.inject(9);
            x.inject(5);
            due("one carrier each", x.widest(), 0);
            x.load(0, 0, 5);
            x.load(0, 1, 9);
            due("two each", x.widest(), 0);
            x.load(0, 2, 5);
            due("one more", x.widest(), 1);
            x.inject(1);
            x.copyBlock(1, 2, 1);
            x.copyBlock(1, 3, 1);
            due("three each of the numbers 1 and 2", x.widest(), 1);
            x.setRegister(0, 2, 0);
            due("one less", x.widest(), 2);
        });
        plain("Returns the number of the injection;");
        says("NONE if no word and no register is poisoned.", x -> {
            due("at first", x.widest(), NONE);
            x.inject(5);
            due("a word", x.widest(), 0);
            x.load(0, 0, 5);
            x.fill(5, 1, 0);
            due("only a register", x.widest(), 0);
            x.setRegister(0, 0, 0);
            due("none", x.widest(), NONE);
            x.inject(6);
            x.setMirror(1, true);
            x.inject(6);
            x.store(0, 0, 6);
            due("none again", x.widest(), NONE);
            PoisonedMemory y = new PoisonedMemory();
            y.inject(6);
            y.undo();
            due("undone", y.widest(), NONE);
        });
    }

    private void promise42() {
        section("Promise 42");
        says("Returns the tasks that are running and have a poisoned register.", x -> {
            due("none at first", x.atRisk(), 0);
            x.inject(5);
            due("a poisoned word alone", x.atRisk(), 0);
            for (int register = 0; register < 4; register++) {
                PoisonedMemory y = new PoisonedMemory();
                poisonRegister(y, 1, register, 5);
                due("register " + register + " of task 1", y.atRisk(), 2);
                y.setMode(1, SKIP);
                y.output(1, register);
                due("running after a fault", y.atRisk(), 2);
                y.setMode(1, STOP);
                y.output(1, register);
                due("poisoned, but stopped", y.atRisk(), 0);
                y.restart(1);
                due("running, but clean", y.atRisk(), 0);
            }
        });
        says("Returns the tasks, as a bit mask in which bit k stands for the task k.", x -> {
            for (int mask = 0; mask < 16; mask++) {
                PoisonedMemory y = new PoisonedMemory();
                y.inject(5);
                for (int task = 0; task < 4; task++) {
                    if ((mask & 1 << task) != 0) {
                        y.load(task, 3 - task, 5);
                    }
                }
                due("atRisk", y.atRisk(), mask);
            }
        });
    }

    private void promise43() {
        section("Promise 43");
        plain("Returns the share of the words that are poisoned.");
        says("Returns the number of poisoned words, as a float, divided by 32.0f.", x -> {
            due("none", x.poisonShare(), 0.0f);
            x.inject(31);
            due("one", x.poisonShare(), 0.03125f);
            x.load(0, 0, 31);
            due("a register does not count", x.poisonShare(), 0.03125f);
            for (int word = 0; word < 31; word++) {
                x.store(0, 0, word);
                due((word + 2) + " words", x.poisonShare(), (word + 2) / 32.0f);
            }
            due("all", x.poisonShare(), 1.0f);
            x.fill(0, 1, 0);
            due("all but one", x.poisonShare(), 0.96875f);
        });
    }

    private void promise44() {
        section("Promise 44");
        says("Tells how many words would be poisoned if all pages were scrubbed now.", x -> {
            due("none", x.poisonedIfScrubbed(), 0);
            x.inject(0);
            x.inject(31);
            due("no mirrors", x.poisonedIfScrubbed(), 2);
            x.setMirror(0, true);
            due("a poisoned second copy", x.poisonedIfScrubbed(), 2);
            x.setMirror(7, true);
            x.inject(31);
            due("a second copy that has another origin", x.poisonedIfScrubbed(), 2);
            x.inject(3);
            x.inject(28);
            due("the first and the last page would be healed", x.poisonedIfScrubbed(), 2);
            x.inject(27);
            due("a page without a mirror", x.poisonedIfScrubbed(), 3);
            due("nothing was scrubbed", x.origin(3), 3);
            due("nothing was healed", x.healed(), 0);
            x.load(0, 0, 0);
            due("a register does not count", x.poisonedIfScrubbed(), 3);
        });
        says("Returns the number of words.", x -> {
            everywhere(x);
            due("all", x.poisonedIfScrubbed(), 32);
            PoisonedMemory y = new PoisonedMemory();
            for (int page = 0; page < 8; page++) {
                y.setMirror(page, true);
            }
            for (int word = 0; word < 20; word++) {
                y.inject(word);
            }
            due("none, for all would be healed", y.poisonedIfScrubbed(), 0);
            y.setMirror(4, false);
            due("but for one page", y.poisonedIfScrubbed(), 4);
            for (int page = 0; page < 8; page++) {
                y.scrub(page);
            }
            due("after scrubbing all pages", y.poisonShare() * 32, 4);
        });
    }

    private void promise45() {
        section("Promise 45");
        says("Finds the page whose scrubbing would heal the most words;", x -> {
            for (int page = 0; page < 8; page++) {
                x.setMirror(page, true);
            }
            x.inject(31);
            due("the last page", x.bestScrub(), 7);
            x.inject(1);
            x.inject(2);
            due("the first page", x.bestScrub(), 0);
            x.inject(28);
            x.inject(29);
            due("the last page again", x.bestScrub(), 7);
            for (int word = 12; word < 16; word++) {
                x.inject(word);
            }
            due("four words", x.bestScrub(), 3);
            x.setMirror(3, true);
            due("with poisoned second copies", x.bestScrub(), 7);
            x.setMirror(7, false);
            due("without a mirror", x.bestScrub(), 0);
            due("nothing was healed", x.healed(), 0);
        });
        says("of several, the one with the lowest number.", x -> {
            for (int page = 7; page >= 0; page--) {
                x.setMirror(page, true);
                x.inject(4 * page + page % 4);
                due("one word each", x.bestScrub(), page);
            }
            x.inject(28);
            due("two words", x.bestScrub(), 7);
            x.inject(8);
            x.inject(9);
            due("two or more", x.bestScrub(), 2);
            x.inject(29);
            due("three each", x.bestScrub(), 2);
            x.scrub(2);
            due("the other one", x.bestScrub(), 7);
            x.scrub(7);
            due("one word each", x.bestScrub(), 0);
        });
        plain("Returns the page;");
        says("NONE if no scrubbing would heal a word.", x -> {
            due("at first", x.bestScrub(), NONE);
            x.inject(0);
            due("no mirror", x.bestScrub(), NONE);
            x.setMirror(0, true);
            due("a poisoned second copy", x.bestScrub(), NONE);
            x.inject(1);
            due("a clean one", x.bestScrub(), 0);
            x.scrub(0);
            due("scrubbed", x.bestScrub(), NONE);
            x.setMirror(7, true);
            due("a clean page", x.bestScrub(), NONE);
        });
    }

    private void promise46() {
        section("Promise 46");
        says("Tells how many carriers of a poison there would be if a word became clean.", x -> {
            x.inject(0);
            x.inject(1);
            x.copyBlock(0, 31, 1);
            x.load(0, 0, 0);
            due("a carrier", x.carriersWithout(0, 0), 2);
            due("another carrier", x.carriersWithout(0, 31), 2);
            due("a clean word", x.carriersWithout(0, 30), 3);
            due("a word with another origin", x.carriersWithout(0, 1), 3);
            due("the other origin, a word of the first one", x.carriersWithout(1, 0), 1);
            due("the only carrier", x.carriersWithout(1, 1), 0);
            due("the carriers stay", x.carriers(0), 3);
            due("the word stays", x.origin(0), 0);
            x.restart(0);
            x.fill(0, 1, 0);
            x.fill(31, 1, 0);
            due("no carriers", x.carriersWithout(0, 0), 0);
        });
        noSuchInjection("`origin`: number of an injection", (x, origin) -> x.carriersWithout(origin, 0));
        says("`word`: 0 to 31", x -> {
            x.inject(0);
            range("word", 0, 31, NO_SUCH, word -> x.carriersWithout(0, word));
            x.copyBlock(0, 31, 1);
            due("word 0", x.carriersWithout(0, 0), 1);
            due("word 1", x.carriersWithout(0, 1), 2);
            due("word 30", x.carriersWithout(0, 30), 2);
            due("word 31", x.carriersWithout(0, 31), 1);
        });
        says("Returns the number of carriers;", x -> {
            everywhere(x);
            due("all but one", x.carriersWithout(0, 31), 47);
            x.inject(31);
            due("all that are left", x.carriersWithout(0, 31), 47);
            due("none", x.carriersWithout(1, 31), 0);
        });
        says("NO_SUCH if there is no such injection or word.", x -> {
            due("no injection yet", x.carriersWithout(0, 0), NO_SUCH);
            x.inject(5);
            range("word", 0, 31, NO_SUCH, word -> x.carriersWithout(0, word));
            range("origin", 0, 0, NO_SUCH, origin -> x.carriersWithout(origin, 5));
            due("neither", x.carriersWithout(1, 32), NO_SUCH);
            due("NONE is no origin", x.carriersWithout(NONE, 0), NO_SUCH);
            for (int i = 0; i < 19; i++) {
                x.inject(6);
            }
            range("origin", 0, 19, NO_SUCH, origin -> x.carriersWithout(origin, 5));
        });
    }

    private void promise47() {
        section("Promise 47");
        says("Tells at which operation of the text a task would be stopped first if the operations of the text were done now by "
            + "run.", x -> {
            poisonRegister(x, 0, 0, 5);
            poisonRegister(x, 1, 1, 6);
            stopsAt(x, "O11;O00", 0);
            stopsAt(x, "O10;O11;O00", 1);
            stopsAt(x, "A00110;O11", 0);
            stopsAt(x, "A03321;A03320", 1);
            stopsAt(x, "A02100;O00", 1);
            stopsAt(x, "A02000;O00", NONE);
            stopsAt(x, "V00=1;O00;O11", 2);
            stopsAt(x, "M010;O00;O01", 1);
            stopsAt(x, "M001;O00;M011;O01", NONE);
            stopsAt(x, "I9;L22,9;O22", 2);
            stopsAt(x, "L22,9;O22", NONE);
            stopsAt(x, "S11,9;L22,9;O22", 2);
            x.setMirror(2, true);
            stopsAt(x, "I9;L22,9;O22", NONE);
            stopsAt(x, "S11,9;L22,9;O22", 2);
            due("nothing was done", x.injections(), 2);
            due("nothing was stopped", x.stopped(0) + x.stopped(1), 0);
            x.setMode(0, SKIP);
            stopsAt(x, "O00;O11", 1);
            x.setMode(0, ZERO);
            stopsAt(x, "O00;O00;O11", 2);
            x.setMode(1, ZERO);
            x.setMode(0, STOP);
            stopsAt(x, "O11;O00", 1);
        });
    }

    /** What stopsAt says, and whether run does the same: run on another object is not needed, undo takes it back. */
    private void stopsAt(PoisonedMemory x, String text, int index) {
        type(x, text);
        due("stopsAt of " + text, x.stopsAt(), index);
        int stoppedBefore = x.stopped(0) + x.stopped(1) + x.stopped(2) + x.stopped(3);
        accepted("run of " + text, x.run());
        int stoppedAfter = x.stopped(0) + x.stopped(1) + x.stopped(2) + x.stopped(3);
        due("run of " + text + " stops a task", stoppedAfter > stoppedBefore ? 1 : 0, index == NONE ? 0 : 1);
        x.undo();
    }

    private void promise47Answers() {
        says("Returns the index of the operation, from 0;", x -> {
            poisonRegister(x, 1, 0, 5);
            StringBuilder before = new StringBuilder();
            for (int index = 0; index <= 21; index++) {
                PoisonedMemory y = new PoisonedMemory();
                poisonRegister(y, 1, 0, 5);
                type(y, before + "O10");
                due("index", y.stopsAt(), index);
                before.append("O20;");
            }
            type(x, "I0;I0;I0;I0;I0;I0;I0;I0;I0;I0;I0;I0;I0;I0;I0;I0;I0;I0;I0;O10");
            due("after 19 injections", x.stopsAt(), 19);
        });
        says("BAD_TEXT if the text has a fault;", x -> {
            poisonRegister(x, 1, 0, 5);
            for (String text : new String[] {"", "O10;", "O10;x", "O10;O1", "O1", "O104", "O10 "}) {
                type(x, text);
                due("stopsAt of \"" + text + "\"", x.stopsAt(), BAD_TEXT);
            }
            type(x, "O10");
            due("stopsAt of a complete text", x.stopsAt(), 0);
        });
        says("NONE if no task would be stopped.", x -> {
            poisonRegister(x, 1, 0, 5);
            stopsAt(x, "V00=1", NONE);
            stopsAt(x, "O00;O20;O11", NONE);
            x.output(1, 0);
            stopsAt(x, "O10", NONE);
            stopsAt(x, "O20;O10;O30", NONE);
            poisonRegister(x, 2, 0, 5);
            stopsAt(x, "O20;O10", 0);
            stopsAt(x, "O10;O20", NONE);
            stopsAt(x, "O21;O20;O10", 1);
            for (int i = x.injections(); i < 20; i++) {
                accepted("inject", x.inject(31));
            }
            stopsAt(x, "I0;O20", NONE);
            stopsAt(x, "O20;I0", 0);
            x.setMode(2, SKIP);
            stopsAt(x, "O20", NONE);
            x.setMode(2, ZERO);
            stopsAt(x, "O20", NONE);
        });
    }
}
