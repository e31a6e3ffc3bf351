import java.util.HashSet;
import java.util.Set;

/** The sentences of "Text", and of the promises 18 to 20. */
final class BoundaryText extends Boundary {
    private static final String LETTERS = "LSMAOIV";
    private static final String DIGITS = "0123";
    private static final String ALL_DIGITS = "0123456789";
    /** One text of each kind of operation. */
    private static final String[] OPERATIONS = {"L00,1", "S00,1", "M000", "A00000", "O00", "I1", "V00=1"};

    BoundaryText(Sentences document) {
        super(document);
    }

    @Override
    void all() {
        textAndItsOperations();
        alternatives();
        digitsAndNumbers();
        faults();
        promise18();
        promise19();
        promise20();
    }

    private static String repeated(String part, int times) {
        StringBuilder text = new StringBuilder();
        for (int i = 0; i < times; i++) {
            text.append(part);
        }
        return text.toString();
    }

    private void textAndItsOperations() {
        section("Text");
        says("There is a text of at most 90 characters (empty at first), which contains operations:", x -> {
            due("empty at first", x.clearText(), 0);
            for (int length = 1; length <= 90; length++) {
                due("append", x.append('I'), length);
            }
            due("the 91st character", x.append('I'), TOO_MANY);
            due("length", x.clearText(), 90);
            due("there is room again", x.append('I'), 1);
        });
        says("text = operation { \";\" operation }", x -> {
            due("no operation", faultOf(""), 0);
            due("one operation", faultOf("O00"), NONE);
            due("two operations", faultOf("O00;O11"), NONE);
            due("thirty operations", faultOf(repeated("I0;", 29) + "I0"), NONE);
            due("a separator in front", faultOf(";O00"), 0);
            due("a separator at the end", faultOf("O00;"), 4);
            due("two separators", faultOf("O00;;O11"), 4);
            due("a separator alone", faultOf(";"), 0);
            due("no separator", faultOf("O00O11"), 3);
            for (String first : OPERATIONS) {
                for (String second : OPERATIONS) {
                    due(first + ";" + second, faultOf(first + ";" + second), NONE);
                    due(first + second, faultOf(first + second), first.length());
                }
                due(first + ";", faultOf(first + ";"), first.length() + 1);
                due(first + " ", faultOf(first + " "), first.length());
                due(first + ",", faultOf(first + ","), first.length());
            }
        });
    }

    private void alternatives() {
        says("operation = \"L\" task register \",\" word", x ->
            shape("L12,7", LETTERS, DIGITS, DIGITS, ",", ALL_DIGITS));
        says("| \"S\" task register \",\" word", x -> shape("S30,9", LETTERS, DIGITS, DIGITS, ",", ALL_DIGITS));
        says("| \"M\" task register register", x -> shape("M013", LETTERS, DIGITS, DIGITS, DIGITS));
        says("| \"A\" task op register register register", x ->
            shape("A32103", LETTERS, DIGITS, DIGITS, DIGITS, DIGITS, DIGITS));
        says("| \"O\" task register", x -> shape("O21", LETTERS, DIGITS, DIGITS));
        says("| \"I\" word", x -> shape("I5", LETTERS, ALL_DIGITS));
        says("| \"V\" task register \"=\" number", x -> shape("V03=6", LETTERS, DIGITS, DIGITS, "=", ALL_DIGITS));
        says("These stand for load, store, move (the target, then the source), compute (the operator, the target, then both "
            + "operands), output, inject and setRegister.", this::eachOperationIsItsMethod);
    }

    /** Tries every character at every place of an operation that is right up to there. */
    private void shape(String operation, String... allowed) {
        int last = operation.length() - 1;
        due("characters of " + operation, allowed.length, last + 1);
        for (int place = 0; place <= last; place++) {
            String start = operation.substring(0, place);
            for (char character = 32; character <= 126; character++) {
                boolean isAllowed = allowed[place].indexOf(character) >= 0;
                int fault = !isAllowed ? place : place < last ? place + 1 : NONE;
                due("fault of " + start + character, faultOf(start + character), fault);
            }
            due("fault of " + start, faultOf(start), place);
        }
    }

    /** No two arguments of an operation are the same, so that none can stand for another. */
    private void eachOperationIsItsMethod(PoisonedMemory x) {
        x.fill(31, 1, 9);
        due("L12,31", runOf(x, "L12,31"), 1);
        due("load", x.register(1, 2), 9);
        x.setRegister(2, 1, 8);
        due("S21,30", runOf(x, "S21,30"), 1);
        due("store", x.value(30), 8);
        due("M012", runOf(x, "M012"), 1);
        due("move of clean registers", x.register(0, 1), 0);
        x.setRegister(3, 0, 5);
        due("M310", runOf(x, "M310"), 1);
        due("move, the target", x.register(3, 1), 5);
        due("V23=4", runOf(x, "V23=4"), 1);
        due("setRegister", x.register(2, 3), 4);
        x.setRegister(1, 0, 7);
        x.setRegister(1, 3, 2);
        for (int operator = 0; operator < 4; operator++) {
            due("A1" + operator + "203", runOf(x, "A1" + operator + "203"), 1);
            due("compute, operator " + operator, x.register(1, 2), new int[] {9, 5, 5, 14}[operator]);
        }
        due("I7", runOf(x, "I7"), 1);
        due("inject", x.origin(7), 0);
        due("L13,7;O13", runOf(x, "L13,7;O13"), 2);
        due("output, the task", x.log(0, 0), 1);
        due("output, the register", x.log(0, 1), 3);
    }

    private static int runOf(PoisonedMemory x, String text) {
        type(x, text);
        return x.run();
    }

    private void digitsAndNumbers() {
        says("A task is a digit from 0 to 3,", x -> {
            for (String letter : new String[] {"L", "S", "M", "A", "O", "V"}) {
                digitAfter(letter);
            }
        });
        says("a register a digit from 0 to 3,", x -> {
            String[] starts = {"L0", "S1", "M2", "M30", "A00", "A000", "A0000", "O0", "V0"};
            for (String start : starts) {
                digitAfter(start);
            }
        });
        says("op a digit from 0 to 3,", x -> {
            digitAfter("A0");
            digitAfter("A3");
        });
        says("a word a number from 0 to 31,", x -> {
            for (String start : new String[] {"I", "L00,", "S33,"}) {
                for (int number = 0; number <= 400; number++) {
                    numberAfter(start, number + "", numbers(31));
                }
                numberAfter(start, "65535", numbers(31));
            }
        });
        says("and a number a number from 0 to 65535,", x -> {
            Set<String> valid = numbers(65535);
            int[] tried = {0, 9, 10, 99, 100, 999, 1000, 6552, 6553, 6554, 6555, 6560, 6600, 9999, 10000, 65529, 65530,
                65534, 65535, 65536, 65539, 65540, 65599, 65600, 66000, 69999, 70000, 99999, 100000, 655350, 999999,
                Integer.MAX_VALUE};
            for (int number : tried) {
                numberAfter("V00=", number + "", valid);
            }
            numberAfter("V00=", "4294967296", valid);
            numberAfter("V00=", "4294967297", valid);
            numberAfter("V00=", "18446744073709551616", valid);
            runNumber(x, "0", 0);
            runNumber(x, "1", 1);
            runNumber(x, "65534", 65534);
            runNumber(x, "65535", 65535);
        });
        says("both without leading zeros.", x -> {
            String[] zeros = {"00", "01", "09", "031", "000", "0000000"};
            for (String number : zeros) {
                for (String start : new String[] {"I", "L00,", "S33,", "V00="}) {
                    due(start + number, faultOf(start + number), start.length() + 1);
                }
            }
            for (String start : new String[] {"I", "L00,", "S33,", "V00="}) {
                due(start + "0", faultOf(start + "0"), NONE);
                due(start + "10", faultOf(start + "10"), NONE);
                due(start + "20", faultOf(start + "20"), NONE);
            }
            due("V00=60000", faultOf("V00=60000"), NONE);
        });
    }

    private void digitAfter(String start) {
        int place = start.length();
        for (char character = '/'; character <= ':'; character++) {
            int fault = faultOf(start + character);
            boolean isAllowed = character >= '0' && character <= '3';
            if (isAllowed) {
                due("the fault of " + start + character + " stands behind it", fault == NONE || fault == place + 1 ? 1 : 0, 1);
            } else {
                due("fault of " + start + character, fault, place);
            }
        }
    }

    private static Set<String> numbers(int most) {
        Set<String> numbers = new HashSet<>();
        for (int number = 0; number <= most; number++) {
            numbers.add(number + "");
        }
        return numbers;
    }

    /** The first digit behind which no number of the set has begun is the fault. */
    private void numberAfter(String start, String number, Set<String> valid) {
        int fault = NONE;
        for (int length = number.length(); length >= 1; length--) {
            if (!valid.contains(number.substring(0, length))) {
                fault = start.length() + length - 1;
            }
        }
        due("fault of " + start + number, faultOf(start + number), fault);
        due("fault of " + start + number + ";O00", faultOf(start + number + ";O00"), fault);
    }

    private void runNumber(PoisonedMemory x, String number, int value) {
        due("run", runOf(x, "V00=" + number), 1);
        due("register", x.register(0, 0), value);
    }

    private void faults() {
        says("The fault of the text is the index of the first character such that no text begins with the characters up to "
            + "and including it (however long such a text is).", x -> {
            due("the first character", faultOf("x"), 0);
            due("the first one, more behind it", faultOf("x;O00"), 0);
            due("of two the first", faultOf("O0x;x"), 2);
            due("the last character", faultOf("O00;O0x"), 6);
            due("the character behind an operation", faultOf("O00x"), 3);
            due("the 89th character", faultOf(repeated("I0;", 29) + "x0"), 87);
            due("the 90th character", faultOf(repeated("I0;", 29) + "I0x"), 89);
            due("the 90th character, a digit too much", faultOf(repeated("I0;", 29) + "I00"), 89);
            due("90 characters, a text of 92 begins so", faultOf(repeated("I0;", 30)), 90);
            due("90 characters, a text of 93 begins so", faultOf(repeated("I0;", 29) + "A00"), 90);
            due("90 characters, no longer text begins so", faultOf(repeated("I0;", 28) + "A0000x"), 89);
        });
        says("If there is no such character but the text is not complete (as the empty text), the fault is the length of the "
            + "text.", x -> {
            due("the empty text", faultOf(""), 0);
            for (String operation : OPERATIONS) {
                for (int length = 1; length < operation.length(); length++) {
                    due(operation.substring(0, length), faultOf(operation.substring(0, length)), length);
                    String behind = "I31;" + operation.substring(0, length);
                    due(behind, faultOf(behind), 4 + length);
                }
                due(operation, faultOf(operation), NONE);
            }
            due("89 characters", faultOf(repeated("I0;", 29) + "I0"), NONE);
            due("88 characters", faultOf(repeated("I0;", 29) + "I"), 88);
            due("87 characters", faultOf(repeated("I0;", 29)), 87);
            due("90 characters", faultOf(repeated("I0;", 29) + "L00"), 90);
            due("90 characters, complete", faultOf(repeated("I0;", 29) + "I31"), NONE);
        });
    }

    private void promise18() {
        section("Promise 18");
        plain("Appends a character to the text.");
        says("`character`: 32 to 126", x -> {
            range("append", 32, 126, BAD_VALUE, x::append);
            due("length", x.clearText(), 4);
            due("the first one", x.append(32), 1);
            due("the last one", x.append(126), 2);
            due("fault of \" ~\"", x.fault(), 0);
        });
        says("Returns the length of the text;", x -> {
            for (int length = 1; length <= 90; length++) {
                due("append", x.append('I'), length);
            }
            x.clearText();
            due("append to the empty text", x.append('I'), 1);
        });
        says("BAD_VALUE if character is out of range;", x -> {
            for (int character : new int[] {31, 127, 0, -1, 65536 + 'I', 256 + 'I', Integer.MIN_VALUE, Integer.MAX_VALUE}) {
                due("append(" + character + ")", x.append(character), BAD_VALUE);
            }
            due("nothing was appended", x.append(32), 1);
            due("nothing was appended", x.append(126), 2);
            for (int length = 3; length <= 90; length++) {
                due("append", x.append('I'), length);
            }
            due("BAD_VALUE comes before TOO_MANY", x.append(31), BAD_VALUE);
            due("BAD_VALUE comes before TOO_MANY", x.append(127), BAD_VALUE);
        });
        says("TOO_MANY if the text has 90 characters.", x -> {
            type(x, repeated("I0;", 29) + "I");
            due("the 89th", x.append('3'), 89);
            due("the 90th", x.append('1'), 90);
            due("the 91st", x.append(';'), TOO_MANY);
            due("and again", x.append('0'), TOO_MANY);
            due("the text is as it was", x.fault(), NONE);
            due("length", x.clearText(), 90);
            due("a new text", x.append('I'), 1);
        });
    }

    private void promise19() {
        section("Promise 19");
        says("Empties the text.", x -> {
            type(x, repeated("I0;", 29) + "I31");
            due("90 characters", x.fault(), NONE);
            x.clearText();
            due("the fault of the empty text", x.fault(), 0);
            due("run", x.run(), BAD_TEXT);
            due("stopsAt", x.stopsAt(), BAD_TEXT);
            due("append", x.append('I'), 1);
            due("nothing is left of what stood there", x.fault(), 1);
        });
        says("Returns the length that the text had.", x -> {
            due("the empty text", x.clearText(), 0);
            x.append('I');
            due("one character", x.clearText(), 1);
            type(x, repeated("I0;", 29) + "I3");
            due("89 characters", x.clearText(), 89);
            type(x, repeated("I0;", 30));
            due("90 characters", x.clearText(), 90);
            due("empty again", x.clearText(), 0);
        });
    }

    private void promise20() {
        section("Promise 20");
        plain("Returns the fault of the text.");
        says("Returns the fault;", x -> {
            due("the empty text", x.fault(), 0);
            x.append('I');
            due("I", x.fault(), 1);
            x.append('3');
            due("I3", x.fault(), NONE);
            x.append('2');
            due("I32", x.fault(), 2);
            x.append(';');
            due("I32;", x.fault(), 2);
        });
        says("NONE if the text has no fault.", x -> {
            String text = "I1;O00";
            int[] faults = {1, NONE, 3, 4, 5, NONE};
            for (int i = 0; i < text.length(); i++) {
                x.append(text.charAt(i));
                due("after " + (i + 1) + " characters", x.fault(), faults[i]);
            }
            x.append('0');
            due("one more", x.fault(), 6);
            due("again", x.fault(), 6);
        });
    }
}
