import java.util.function.ToIntFunction;

/** The sentences of "Actions and history", and of the promises 21 and 22. */
final class BoundaryHistory extends Boundary {
    /** Every action in a form that changes nothing on a new object, but for inject, which always changes something. */
    private static final String[] NAMES = {
        "inject", "copyBlock", "fill", "setMirror", "scrub", "setMode", "restart", "setRegister", "load", "loadByte",
        "store", "storeByte", "move", "compute", "loadAt", "output", "run"
    };

    BoundaryHistory(Sentences document) {
        super(document);
    }

    @Override
    void all() {
        section("Actions and history");
        actions();
        state();
        recording();
        promise21();
        promise21Answers();
        promise22();
    }

    /** On a text that is complete, run does nothing but an operation that changes nothing. */
    private static int act(PoisonedMemory x, String name) {
        switch (name) {
            case "inject": return x.inject(5);
            case "copyBlock": return x.copyBlock(0, 16, 16);
            case "fill": return x.fill(0, 16, 0);
            case "setMirror": return x.setMirror(0, false);
            case "scrub": return x.scrub(0);
            case "setMode": return x.setMode(0, 0);
            case "restart": return x.restart(0);
            case "setRegister": return x.setRegister(0, 0, 0);
            case "load": return x.load(0, 0, 0);
            case "loadByte": return x.loadByte(0, 0, 0, 0);
            case "store": return x.store(0, 0, 0);
            case "storeByte": return x.storeByte(0, 0, 0, 0);
            case "move": return x.move(0, 0, 0);
            case "compute": return x.compute(0, XOR, 0, 0, 0);
            case "loadAt": return x.loadAt(0, 0, 0);
            case "output": return x.output(0, 0);
            default: return x.run();
        }
    }

    private void actions() {
        says("The actions are all methods of the first three groups below, and run.", x -> {
            for (String name : NAMES) {
                PoisonedMemory y = new PoisonedMemory();
                type(y, "O00");
                accepted(name, act(y, name));
                due("undo of " + name, y.undo(), 0);
            }
            allThatIsNoAction(x);
            due("undo, nothing else is an action", x.undo(), NONE);
        });
    }

    private static void allThatIsNoAction(PoisonedMemory x) {
        x.append('I');
        x.clearText();
        type(x, "I3");
        x.fault();
        x.undo();
        x.value(0);
        x.origin(0);
        x.hops(0);
        x.mirrorValue(0);
        x.mirrorOrigin(0);
        x.register(0, 0);
        x.registerOrigin(0, 0);
        x.registerHops(0, 0);
        x.mode(0);
        x.stopped(0);
        x.injections();
        x.source(0);
        x.faults();
        x.log(0, 0);
        x.healed();
        x.poisoned(0);
        x.carriers(0);
        x.farthest(0);
        x.widest();
        x.atRisk();
        x.poisonShare();
        x.poisonedIfScrubbed();
        x.bestScrub();
        x.carriersWithout(0, 0);
        x.stopsAt();
    }

    private void state() {
        says("The state consists of the words and second copies with their marks, the pages, the tasks with their registers, "
            + "the injections, the log and the counters.", x -> {
            restored("value", y -> y.fill(31, 1, 65535), y -> y.value(31), 65535);
            restored("origin", y -> y.inject(31), y -> y.origin(31), 1);
            restored("hops", y -> y.copyBlock(2, 2, 1), y -> y.hops(2), 1);
            restored("mirrorValue", y -> y.fill(7, 1, 65535), y -> y.mirrorValue(7), 65535);
            restored("mirrorOrigin", y -> y.setMirror(0, true), y -> y.mirrorOrigin(2), 0);
            restored("pages", y -> y.setMirror(1, false), y -> y.mirrorValue(4), NONE);
            restored("mode", y -> y.setMode(3, ZERO), y -> y.mode(3), ZERO);
            restored("stopped", y -> y.output(2, 2), y -> y.stopped(2), 1);
            restored("register", y -> y.setRegister(3, 3, 65535), y -> y.register(3, 3), 65535);
            restored("registerOrigin", y -> y.load(3, 3, 2), y -> y.registerOrigin(3, 3), 0);
            restored("registerHops", y -> y.move(2, 2, 2), y -> y.registerHops(2, 2), 2);
            restored("injections", y -> y.inject(9), y -> y.injections(), 2);
            restored("source", y -> y.inject(9), y -> y.source(1), 9);
            restored("log", y -> y.output(2, 2), y -> y.log(0, 0), 2);
            restored("faults", y -> y.output(2, 2), y -> y.faults(), 1);
            restored("healed", y -> y.scrub(0), y -> y.healed(), 1);
            logIsRestored(x);
        });
    }

    /** What a fault moves on in the log, and the oldest one that it drops, are as they were after undo. */
    private void logIsRestored(PoisonedMemory x) {
        int[] first = {0, 1, 0};
        int[] others = {2, 3, 1};
        x.setMode(0, SKIP);
        x.setMode(2, SKIP);
        poisonRegister(x, 0, 1, 8);
        poisonRegister(x, 2, 3, 9);
        for (int faults = 1; faults <= 10; faults++) {
            int[] latest = faults == 1 ? first : others;
            int[] undone = faults == 1 ? others : first;
            int oldest = Math.min(faults, 8) - 1;
            x.output(latest[0], latest[1]);
            x.output(undone[0], undone[1]);
            x.undo();
            for (int part = 0; part < 3; part++) {
                due("the latest of " + faults + ", part " + part, x.log(0, part), latest[part]);
                due("the oldest of " + faults + ", part " + part, x.log(oldest, part), (faults <= 8 ? first : others)[part]);
            }
            due("no more than " + faults, x.log(oldest + 1, 0), NONE);
        }
    }

    /** The action changes what the question answers to "after"; undo brings back what it answered before. */
    private void restored(String what, ToIntFunction<PoisonedMemory> action, ToIntFunction<PoisonedMemory> question, int after) {
        PoisonedMemory x = new PoisonedMemory();
        x.setMirror(1, true);
        x.setMirror(0, true);
        x.inject(2);
        if (!what.equals("healed")) {
            // Without its mirror the word is poisoned still when it is loaded.
            x.setMirror(0, false);
            x.load(2, 2, 2);
        }
        int before = question.applyAsInt(x);
        accepted(what + ": the action", action.applyAsInt(x));
        int changed = question.applyAsInt(x);
        due(what + " after the action", changed, after);
        due(what + " is another one than before", before == after ? 1 : 0, 0);
        x.undo();
        due(what + " after undo", question.applyAsInt(x), before);
    }

    private void recording() {
        says("Each action that returns no error code records the state before it in the history, even if the action changes "
            + "nothing.", this::eachActionRecords);
        says("The history holds at most 4 states;", x -> {
            for (int actions = 0; actions <= 6; actions++) {
                PoisonedMemory y = new PoisonedMemory();
                for (int i = 1; i <= actions; i++) {
                    y.setRegister(0, 0, i);
                }
                int held = Math.min(actions, 4);
                for (int left = held - 1; left >= 0; left--) {
                    due("undo after " + actions + " actions", y.undo(), left);
                }
                due("one undo more after " + actions + " actions", y.undo(), NONE);
            }
        });
        says("when a fifth state is recorded, the oldest one is dropped.", x -> {
            for (int actions = 3; actions <= 6; actions++) {
                PoisonedMemory y = new PoisonedMemory();
                for (int i = 1; i <= actions; i++) {
                    y.setRegister(0, 0, i);
                }
                for (int undo = 1; undo <= Math.min(actions, 4); undo++) {
                    y.undo();
                    due("register after undo " + undo + " of " + actions, y.register(0, 0), actions - undo);
                }
                y.undo();
                due("the oldest that is held, of " + actions, y.register(0, 0), Math.max(0, actions - 4));
            }
        });
        says("The operations of run record no states by themselves.", x -> {
            for (String text : new String[] {"V00=1", "V00=1;V00=2", "V00=1;V00=2;V00=3;V00=4;V00=5;V00=6"}) {
                PoisonedMemory y = new PoisonedMemory();
                y.setRegister(0, 0, 9);
                type(y, text);
                accepted("run", y.run());
                due("undo of run", y.undo(), 1);
                due("the state before run", y.register(0, 0), 9);
                due("undo of what was before", y.undo(), 0);
                due("no state more", y.undo(), NONE);
            }
        });
        says("The text and the history are not part of the state.", x -> {
            x.inject(1);
            x.inject(2);
            type(x, "I3");
            due("undo", x.undo(), 1);
            due("the text stays", x.fault(), NONE);
            due("undo again: what undo took away does not come back", x.undo(), 0);
            due("none is left", x.undo(), NONE);
            due("length of the text", x.clearText(), 2);
            x.inject(4);
            x.clearText();
            type(x, "I31");
            x.undo();
            due("a text that was typed after the action", x.clearText(), 3);
        });
    }

    private void eachActionRecords(PoisonedMemory x) {
        for (String name : NAMES) {
            PoisonedMemory y = new PoisonedMemory();
            type(y, "V00=0");
            y.setRegister(3, 3, 1);
            y.setRegister(3, 3, 2);
            accepted(name, act(y, name));
            due("undo of " + name, y.undo(), 2);
            due("the register before both", y.register(3, 3), 2);
            due("undo of what was before " + name, y.undo(), 1);
            due("the register", y.register(3, 3), 1);
        }
        x.inject(0);
        x.load(0, 0, 0);
        due("an action that answers FAULT", x.output(0, 0), FAULT);
        due("is undone", x.undo(), 2);
        due("the task is running again", x.stopped(0), 0);
        x.output(0, 0);
        due("an action that answers an error code", x.output(0, 0), NOT_POSSIBLE);
        type(x, "O00");
        due("a run whose first operation answers an error code", x.run(), 0);
        due("is recorded, the others before it too", x.undo(), 3);
        due("the fault before it", x.stopped(0), 1);
        due("undo of the fault", x.undo(), 2);
        due("running", x.stopped(0), 0);
    }

    private void promise21() {
        section("Promise 21");
        says("Does the operations of the text, in their order,", x -> {
            type(x, "V00=5;V01=3;A01201;A01302;V00=0;I9;I8");
            due("run", x.run(), 7);
            due("a difference of what came before", x.register(0, 2), 2);
            due("a difference of what came before", x.register(0, 3), 3);
            due("a later setRegister", x.register(0, 0), 0);
            due("the first injection", x.source(0), 9);
            due("the second injection", x.source(1), 8);
        });
        says("up to the first one whose method would return an error code.", x -> {
            for (String refused : new String[] {"L00,1", "S00,1", "M011", "A00011", "A02011", "O01", "V01=1"}) {
                PoisonedMemory y = new PoisonedMemory();
                Check.stop(y, 0);
                type(y, "V10=1;" + refused + ";V11=1;O10");
                due(refused + " of a stopped task", y.run(), 1);
                due("before it", y.register(1, 0), 1);
                due("behind it", y.register(1, 1), 0);
                type(y, "V12=1;V13=1;" + refused);
                due(refused + " at the end", y.run(), 2);
                type(y, refused + ";V11=1");
                due(refused + " at the beginning", y.run(), 0);
                due("behind it", y.register(1, 1), 0);
            }
            for (int i = 0; i < 18; i++) {
                x.inject(i);
            }
            type(x, "I30;I31;V00=1");
            due("the 19th and the 20th injection", x.run(), 3);
            x.undo();
            type(x, "I30;I31;I29;V00=2");
            due("a 21st injection", x.run(), 2);
            due("it is not done", x.origin(29), NONE);
            due("nor what stands behind it", x.register(0, 0), 0);
        });
        says("The text does not change.", x -> {
            type(x, "I1;I2");
            due("run", x.run(), 2);
            due("length", x.append(';'), 6);
            x.append('I');
            x.append('3');
            due("run", x.run(), 3);
            due("run", x.run(), 3);
            due("fault", x.fault(), NONE);
            Check.stop(x, 0);
            type(x, "O00;O00");
            due("run", x.run(), 0);
            due("length", x.clearText(), 7);
            type(x, "I1;");
            due("run", x.run(), BAD_TEXT);
            due("length", x.clearText(), 3);
        });
        says("(An operation that returns FAULT does not end this.)", x -> {
            for (int mode : new int[] {STOP, SKIP}) {
                PoisonedMemory y = new PoisonedMemory();
                y.setMode(2, mode);
                poisonRegister(y, 2, 0, 4);
                for (String use : new String[] {"O20", "A20102"}) {
                    y.restart(2);
                    y.load(2, 0, 4);
                    type(y, use + ";V31=7");
                    due(use + " in mode " + mode, y.run(), 2);
                    due("behind it", y.register(3, 1), 7);
                    y.setRegister(3, 1, 0);
                    type(y, use);
                    due(use + " again", y.run(), mode == STOP ? 0 : 1);
                }
                due("faults", y.faults(), mode == STOP ? 2 : 4);
            }
        });
    }

    private void promise21Answers() {
        says("Returns the number of operations whose methods returned no error code;", x -> {
            StringBuilder text = new StringBuilder("O00");
            for (int operations = 1; operations <= 22; operations++) {
                PoisonedMemory y = new PoisonedMemory();
                type(y, text.toString());
                due(operations + " operations", y.run(), operations);
                text.append(";O00");
            }
            type(x, "I0;I0;I0;I0;I0;I0;I0;I0;I0;I0;I0;I0;I0;I0;I0;I0;I0;I0;I0;O00;O00;O00;O00;O00;O00;O00;O00");
            due("27 operations", x.run(), 27);
            type(x, "I1;I1;O00");
            due("the last injection that there is room for", x.run(), 1);
            due("none", x.run(), 0);
        });
        says("BAD_TEXT if the text has a fault.", x -> {
            for (String text : new String[] {"", "I", "I1;", "I1;I32", "I1;I", "x", "I1;x", "I1 "}) {
                type(x, text);
                due("run of \"" + text + "\"", x.run(), BAD_TEXT);
                due("nothing is done", x.injections(), 0);
            }
            due("nothing is recorded", x.undo(), NONE);
            type(x, "I1");
            due("run of a complete text", x.run(), 1);
        });
    }

    private void promise22() {
        section("Promise 22");
        says("Restores the latest state of the history and removes it from the history.", x -> {
            for (int i = 1; i <= 6; i++) {
                x.setRegister(1, 1, i);
            }
            for (int value = 5; value >= 2; value--) {
                x.undo();
                due("register", x.register(1, 1), value);
            }
            x.setRegister(1, 1, 80);
            x.setRegister(1, 1, 81);
            x.undo();
            due("what came after the undos", x.register(1, 1), 80);
            x.undo();
            due("and before it", x.register(1, 1), 2);
            due("nothing more", x.undo(), NONE);
        });
        says("The text does not change.", x -> {
            type(x, "I1");
            x.run();
            x.append(';');
            due("undo", x.undo(), 0);
            due("fault", x.fault(), 3);
            due("length", x.clearText(), 3);
            x.inject(0);
            x.undo();
            due("the empty text", x.clearText(), 0);
        });
        says("Returns the number of states that are left in the history;", x -> {
            x.setMode(0, 1);
            due("one action", x.undo(), 0);
            for (int i = 0; i < 4; i++) {
                x.setMode(0, 1);
            }
            for (int left = 3; left >= 0; left--) {
                due("four actions", x.undo(), left);
            }
            for (int i = 0; i < 5; i++) {
                x.setMode(0, 1);
            }
            due("five actions", x.undo(), 3);
            x.setMode(0, 1);
            due("one more", x.undo(), 3);
            due("and the one before", x.undo(), 2);
        });
        says("NONE if the history is empty.", x -> {
            due("at first", x.undo(), NONE);
            due("again", x.undo(), NONE);
            x.setRegister(0, 0, 4);
            due("one state", x.undo(), 0);
            due("empty again", x.undo(), NONE);
            due("nothing changed", x.register(0, 0), 0);
            x.setRegister(0, 0, -1);
            x.append('I');
            due("what was refused is not in it, nor is append", x.undo(), NONE);
        });
    }
}
