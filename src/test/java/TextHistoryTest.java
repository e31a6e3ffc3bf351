/** Promises 18 to 22: append, clearText, fault, run and undo. */
public final class TextHistoryTest {
    private static final Check CHECK = new Check("TextHistoryTest");

    public static void main(String[] args) {
        promise18Append();
        promise19ClearText();
        promise20FaultOfWholeTexts();
        promise20FaultOfOtherTexts();
        promise20FaultOfNumbers();
        promise20FaultIgnoresTheRoom();
        promise20FaultForgetsTheTextBefore();
        promise20FaultAtTheLastPlace();
        promise21RunEachOperation();
        promise21RunEnds();
        promise21RunErrors();
        promise22Undo();
        promise22UndoRestoresAll();
        promise22UndoEachAction();
        promise22UndoRestoresMarksInside();
        promise22TextIsNoState();
        CHECK.finish();
    }

    private static void promise18Append() {
        PoisonedMemory x = new PoisonedMemory();
        CHECK.due("31", x.append(31), Check.BAD_VALUE);
        CHECK.due("127", x.append(127), Check.BAD_VALUE);
        CHECK.due("-1", x.append(-1), Check.BAD_VALUE);
        CHECK.due("a character's number plus 65536", x.append(65536 + 'O'), Check.BAD_VALUE);
        CHECK.due("32", x.append(32), 1);
        CHECK.due("126", x.append(126), 2);
        for (int i = 3; i <= 90; i++) {
            CHECK.due("append", x.append('L'), i);
        }
        CHECK.due("BAD_VALUE comes first", x.append(31), Check.BAD_VALUE);
        CHECK.due("full", x.append('L'), Check.TOO_MANY);
        CHECK.due("length", x.clearText(), 90);
        CHECK.due("no action", x.undo(), Check.NONE);
    }

    private static void promise19ClearText() {
        PoisonedMemory x = new PoisonedMemory();
        CHECK.due("empty", x.clearText(), 0);
        Check.type(x, "O00");
        CHECK.due("three", x.clearText(), 3);
        CHECK.due("empty again", x.clearText(), 0);
        CHECK.due("fault of the empty text", x.fault(), 0);
        CHECK.due("append", x.append('I'), 1);
        CHECK.due("no action", x.undo(), Check.NONE);
    }

    private static int faultOf(String text) {
        PoisonedMemory x = new PoisonedMemory();
        Check.type(x, text);
        return x.fault();
    }

    private static void promise20FaultOfWholeTexts() {
        String[] texts = {
            "L00,0", "L33,31", "S12,9", "M333", "A33333", "A00000", "O33", "I0", "I31", "V00=0", "V33=65535",
            "L00,1;S00,2;M012;A10123;O00;I3;V01=10", "I1;I2;I3;I4"
        };
        for (String text : texts) {
            CHECK.due(text, faultOf(text), Check.NONE);
        }
    }

    private static void promise20FaultOfOtherTexts() {
        String[] texts = {
            "", "l", " ", ";", "0", "X00", "L", "L4", "L0", "L04", "L00", "L00;", "L00=1", "L00,", "L00,;", "L00,x",
            "L00,1;", "L00,1 ", "L00,1;;", "L00,1;L", "L00,1,", "M00", "M004", "M0000", "A0000", "A04000", "A00000,",
            "A000000", "O0", "O04", "O000", "I", "I-1", "I0;", "V00", "V00,1", "V00=", "V00=-", "V4", "V04", "S00=1",
            "L001", "S331", "V001", "O00O00", "I1I2", "M000M000", "i1", "M 00", "O+1"
        };
        int[] faults = {
            0, 0, 0, 0, 0, 0, 1, 1, 2, 2, 3, 3, 3, 4, 4, 4,
            6, 5, 6, 7, 5, 3, 3, 4, 5, 2, 6,
            6, 2, 2, 3, 1, 1, 3, 3, 3, 4, 4, 1, 2, 3,
            3, 3, 3, 3, 2, 4, 0, 1, 1
        };
        for (int i = 0; i < texts.length; i++) {
            CHECK.due(texts[i], faultOf(texts[i]), faults[i]);
        }
        CHECK.due("as many faults as texts", faults.length, texts.length);
    }

    private static void promise20FaultOfNumbers() {
        CHECK.due("I00", faultOf("I00"), 2);
        CHECK.due("I01", faultOf("I01"), 2);
        CHECK.due("I32", faultOf("I32"), 2);
        CHECK.due("I40", faultOf("I40"), 2);
        CHECK.due("I100", faultOf("I100"), 3);
        CHECK.due("I29;I3", faultOf("I29;I3"), Check.NONE);
        CHECK.due("V00=00", faultOf("V00=00"), 5);
        CHECK.due("V00=05", faultOf("V00=05"), 5);
        CHECK.due("V00=65536", faultOf("V00=65536"), 8);
        CHECK.due("V00=65540", faultOf("V00=65540"), 8);
        CHECK.due("V00=70000", faultOf("V00=70000"), 8);
        CHECK.due("V00=6553", faultOf("V00=6553"), Check.NONE);
        CHECK.due("V00=100000", faultOf("V00=100000"), 9);
        CHECK.due("V00=65535;V00=65536", faultOf("V00=65535;V00=65536"), 18);
    }

    private static void promise20FaultIgnoresTheRoom() {
        StringBuilder text = new StringBuilder();
        for (int i = 0; i < 29; i++) {
            text.append("I0;");
        }
        text.append("I0");
        CHECK.due("89 characters", faultOf(text.toString()), Check.NONE);
        text.append(";");
        CHECK.due("90 characters, not complete", faultOf(text.toString()), 90);
        text.setCharAt(89, 'x');
        CHECK.due("90 characters, the last one wrong", faultOf(text.toString()), 89);
    }

    private static void promise20FaultForgetsTheTextBefore() {
        PoisonedMemory x = new PoisonedMemory();
        Check.type(x, "V00=65535;I31");
        Check.type(x, "V00");
        CHECK.due("a sign was there before", x.fault(), 3);
        Check.type(x, "V0");
        CHECK.due("a digit was there before", x.fault(), 2);
        Check.type(x, "V00=6553");
        CHECK.due("one digit less", x.fault(), Check.NONE);
        x.run();
        CHECK.due("value", x.register(0, 0), 6553);
        Check.type(x, "");
        CHECK.due("a letter was there before", x.fault(), 0);
    }

    private static void promise20FaultAtTheLastPlace() {
        String[] endings = {"L", "L0", "L00", "L00,", "L00,3", "V00=", "V00=6553", "M000", "A0000", "I3;", "I"};
        for (String ending : endings) {
            StringBuilder text = new StringBuilder();
            int room = 90 - ending.length();
            while (text.length() < room) {
                text.append((room - text.length()) % 3 == 0 ? "I0;" : "I10;");
            }
            boolean isWhole = ending.equals("L00,3") || ending.equals("V00=6553") || ending.equals("M000");
            CHECK.due("length before " + ending, text.length(), room);
            CHECK.due("90 characters with " + ending, faultOf(text + ending), isWhole ? Check.NONE : 90);
        }
    }

    private static void promise21RunEachOperation() {
        PoisonedMemory x = new PoisonedMemory();
        x.fill(5, 1, 42);
        x.setMode(1, Check.SKIP);
        Check.type(x, "I5;L12,5;S12,31;M132;O13;V10=65535;V11=2;A13110");
        CHECK.due("run", x.run(), 8);
        CHECK.due("inject", x.origin(5), 0);
        CHECK.due("load", x.registerHops(1, 2), 1);
        CHECK.due("load", x.register(1, 2), 42);
        CHECK.due("store", x.hops(31), 2);
        CHECK.due("move", x.registerHops(1, 3), 2);
        CHECK.due("output", x.faults(), 1);
        CHECK.due("output", x.log(0, 1), 3);
        CHECK.due("setRegister", x.register(1, 0), 65535);
        CHECK.due("compute", x.register(1, 1), 65534);
        CHECK.due("one state of run", x.undo(), 2);
        CHECK.due("all undone", x.injections(), 0);
        CHECK.due("all undone", x.faults(), 0);
        CHECK.due("all undone", x.register(1, 0), 0);
        CHECK.due("the text stays", x.fault(), Check.NONE);
        CHECK.due("difference of first and second", runOf("V00=7;V01=5;A01201", 2), 2);
        CHECK.due("the target of move comes first", runOf("V00=7;M010", 1), 7);
        CHECK.due("the last of five registers", runOf("V00=7;V03=9;A00203", 2), 16);
    }

    private static int runOf(String text, int register) {
        PoisonedMemory x = new PoisonedMemory();
        Check.type(x, text);
        x.run();
        return x.register(0, register);
    }

    private static void promise21RunEnds() {
        PoisonedMemory x = new PoisonedMemory();
        Check.type(x, "I1;L00,1;O00;I2;L00,2;I3");
        CHECK.due("up to the stopped task", x.run(), 4);
        CHECK.due("nothing after it", x.injections(), 2);
        Check.type(x, "L00,1;I3");
        CHECK.due("the first one", x.run(), 0);
        CHECK.due("nothing done", x.injections(), 2);
        CHECK.due("but recorded", x.undo(), 1);
        Check.type(x, "I0;I0;I0;I0;I0;I0;I0;I0;I0;I0;I0;I0;I0;I0;I0;I0;I0;I0;I0;V10=3");
        CHECK.due("TOO_MANY ends it", x.run(), 18);
        CHECK.due("injections", x.injections(), 20);
        CHECK.due("nothing after it", x.register(1, 0), 0);
    }

    private static void promise21RunErrors() {
        PoisonedMemory x = new PoisonedMemory();
        CHECK.due("empty", x.run(), Check.BAD_TEXT);
        Check.type(x, "I1;");
        CHECK.due("not complete", x.run(), Check.BAD_TEXT);
        CHECK.due("nothing done", x.injections(), 0);
        Check.type(x, "I1;I32");
        CHECK.due("fault", x.run(), Check.BAD_TEXT);
        CHECK.due("nothing done", x.injections(), 0);
        CHECK.due("nothing recorded", x.undo(), Check.NONE);
        Check.type(x, "I1");
        CHECK.due("again", x.run(), 1);
        CHECK.due("and again", x.run(), 1);
        CHECK.due("injections", x.injections(), 2);
    }

    private static void promise22Undo() {
        PoisonedMemory x = new PoisonedMemory();
        CHECK.due("empty history", x.undo(), Check.NONE);
        for (int i = 1; i <= 6; i++) {
            x.setRegister(0, 0, i);
        }
        x.setRegister(0, 0, -1);
        for (int left = 3; left >= 0; left--) {
            CHECK.due("undo", x.undo(), left);
            CHECK.due("register", x.register(0, 0), left + 2);
        }
        CHECK.due("no fifth", x.undo(), Check.NONE);
        CHECK.due("register", x.register(0, 0), 2);
        x.setRegister(0, 0, 2);
        CHECK.due("an action that changes nothing", x.undo(), 0);
        for (int i = 3; i <= 5; i++) {
            x.setRegister(0, 0, i);
        }
        x.undo();
        x.setRegister(0, 0, 9);
        CHECK.due("after undo", x.undo(), 2);
        CHECK.due("register", x.register(0, 0), 4);
    }

    private static void promise22UndoRestoresAll() {
        PoisonedMemory x = new PoisonedMemory();
        x.fill(0, 4, 3);
        x.setMirror(0, true);
        x.inject(1);
        x.setMode(2, Check.SKIP);
        x.load(3, 0, 1);
        x.restart(3);
        x.inject(9);
        Check.type(x, "I1;L00,9;S00,2;S00,3;L20,9;O20;O00");
        x.run();
        CHECK.due("healed by load", x.healed(), 1);
        CHECK.due("stopped", x.stopped(0), 1);
        CHECK.due("faults", x.faults(), 2);
        CHECK.due("undo", x.undo(), 3);
        CHECK.due("words", x.origin(2), Check.NONE);
        CHECK.due("words", x.value(2), 3);
        CHECK.due("second copies", x.mirrorValue(3), 3);
        CHECK.due("second copies", x.mirrorOrigin(3), Check.NONE);
        CHECK.due("registers", x.registerOrigin(0, 0), Check.NONE);
        CHECK.due("tasks", x.stopped(0), 0);
        CHECK.due("log", x.log(0, 0), Check.NONE);
        CHECK.due("injections", x.injections(), 2);
        CHECK.due("an origin of its own", x.source(1), 9);
        x.setMirror(0, false);
        x.setMode(2, Check.ZERO);
        CHECK.due("undo the mode", x.undo(), 3);
        CHECK.due("mode", x.mode(2), 1);
        CHECK.due("undo the mirror", x.undo(), 2);
        CHECK.due("pages", x.mirrorValue(1), 3);
    }

    /** Three objects for each action, since one alone would need more calls than the document allows. */
    private static void promise22UndoEachAction() {
        int actions = 17;
        for (int action = 0; action < actions; action++) {
            String before = Check.stateOf(prepared());
            PoisonedMemory changed = prepared();
            CHECK.due("action " + action + " is no error", act(changed, action), DUE[action]);
            CHECK.due("action " + action + " changes the state", Check.stateOf(changed).equals(before) ? 1 : 0, 0);
            PoisonedMemory restored = prepared();
            act(restored, action);
            CHECK.due("undo of action " + action, restored.undo(), 3);
            CHECK.due("undo restores action " + action, Check.stateOf(restored).equals(before) ? 1 : 0, 1);
        }
    }

    private static PoisonedMemory prepared() {
        PoisonedMemory x = new PoisonedMemory();
        x.fill(4, 4, 700);
        x.setMirror(1, true);
        x.setMode(1, Check.SKIP);
        Check.poisonRegister(x, 0, 1, 9);
        Check.poisonRegister(x, 1, 1, 10);
        x.store(1, 1, 11);
        x.inject(4);
        Check.type(x, "V00=8;I3");
        return x;
    }

    private static final int[] DUE = {3, 1, 1, 0, 1, 0, 1, 0, 0, 188, 1, 1, 0, 0, Check.FAULT, Check.FAULT, 2};

    private static int act(PoisonedMemory x, int action) {
        switch (action) {
            case 0: return x.inject(30);
            case 1: return x.copyBlock(4, 10, 2) + 1;
            case 2: return x.fill(4, 1, 700);
            case 3: return x.setMirror(1, false);
            case 4: return x.scrub(1);
            case 5: return x.setMode(0, Check.ZERO);
            case 6: return x.restart(1);
            case 7: return x.setRegister(0, 1, 6);
            case 8: return x.load(0, 2, 9);
            case 9: return x.loadByte(0, 2, 4, 0);
            case 10: return x.store(0, 1, 4);
            case 11: return x.storeByte(0, 1, 4, 0);
            case 12: return x.move(0, 3, 1);
            case 13: return x.compute(0, 2, 1, 1, 1);
            case 14: return x.loadAt(0, 3, 1);
            case 15: return x.output(0, 1);
            default: return x.run();
        }
    }

    private static void promise22UndoRestoresMarksInside() {
        PoisonedMemory x = new PoisonedMemory();
        x.inject(5);
        x.inject(6);
        x.undo();
        x.inject(7);
        CHECK.due("the number is given anew", x.source(1), 7);
        x.undo();
        CHECK.due("the word of the first", x.origin(5), 0);
        CHECK.due("its source", x.source(0), 5);
        x.copyBlock(5, 5, 1);
        x.copyBlock(5, 5, 1);
        x.undo();
        CHECK.due("hops", x.hops(5), 1);
        x.undo();
        CHECK.due("hops", x.hops(5), 0);
        x.load(0, 0, 5);
        x.move(0, 0, 0);
        x.undo();
        CHECK.due("hops of a register", x.registerHops(0, 0), 1);
    }

    private static void promise22TextIsNoState() {
        PoisonedMemory x = new PoisonedMemory();
        x.inject(3);
        Check.type(x, "I4");
        x.undo();
        CHECK.due("the text stays", x.clearText(), 2);
        CHECK.due("undo is not undone", x.undo(), Check.NONE);
    }
}
