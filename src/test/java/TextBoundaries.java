/** Boundaries of promises 10 to 13, and of what the document says ahead of them of texts and their faults. */
final class TextBoundaries extends Boundaries {

    private static final String COMMANDS = "A text of commands is one or more commands with \";\" between two: \"fly\", a "
            + "string (0 to 3) and a number (-999 to 999); \"read\" and a kite (0 to 11); \"write\", a kite and a number; "
            + "\"beat\" and how many (1 to 20); \"wind\", a beat (0 to 7) and a wind (0 to 9); there is one blank ahead "
            + "of each number.";
    private static final String NUMBERS = "Numbers do not begin with 0, unless they are the single digit 0; \"-\" is "
            + "allowed only ahead of a number that may be below 0, and a digit from 1 to 9 follows it; a digit by which a "
            + "number would be farther from 0 than told is not allowed.";
    private static final String FAULT = "The fault of the text is the index, from 0, of the first character that is not "
            + "allowed at its place, or the length of the text if it ends too early (the empty text does).";

    static void all() {
        typeLength();
        typeAnyCharacter();
        clearText();
        textIsNoState();
        oneOrMoreCommands();
        flyRanges();
        kiteRanges();
        beatRange();
        windRanges();
        oneBlank();
        firstDigits();
        minusSigns();
        lastDigits();
        faultIsTheFirst();
        endsTooEarly();
        wrongCharacters();
        longestText();
        performReturns();
        performLeavesTheText();
        oneAfterTheOther();
        allOrNone();
        stoppedByErrors();
        doesNothing();
        stoppedWhat();
        stoppedReturns();
    }

    // ---- asking about texts

    /** Eleven kites, so that each of 0 to 10 can be read, and one more can fly. */
    private static KiteRegisters eleven() {
        return without(full(), 11);
    }

    private static void good(String text, Start start, int commands) {
        act("perform() of '" + text + "'", () -> entered(start, text), KiteRegisters::perform, commands);
    }

    private static void fault(String text, int index) {
        unchanged("perform() of '" + text + "'", () -> entered(Bench::busy, text), KiteRegisters::perform,
                -10100 - index);
    }

    private static KiteRegisters stops(String text, Start start, int command, int error) {
        KiteRegisters x = entered(start, text);
        due("perform() of '" + text + "'", x.perform(), NOT_POSSIBLE);
        due("stopped(0) of '" + text + "'", x.stopped(0), command);
        due("stopped(1) of '" + text + "'", x.stopped(1), error);
        KiteRegisters was = entered(start, text);
        same("perform() of '" + text + "'", state(x), state(was));
        due("count(11)", x.count(11), was.count(11));
        due("count(12)", x.count(12), text.length());
        for (int i = 0; i < 4; i++) {
            due("undo() behind '" + text + "'", x.undo(), was.undo());
            due("count(0)", x.count(0), was.count(0));
            due("count(3)", x.count(3), was.count(3));
        }
        return entered(start, text);
    }

    private static KiteRegisters entered(Start start, String text) {
        KiteRegisters x = start.make();
        enter(x, text);
        return x;
    }

    private static String repeated(String part, int times) {
        return part.repeat(times);
    }

    // ---- type, clearText

    private static KiteRegisters typed(Start start, int characters) {
        return entered(start, repeated("x", characters));
    }

    private static void typeLength() {
        sentence("10", "There is a text of at most 80 characters, empty at first.");
        due("count(12), at first", empty().count(12), 0);
        due("clearText(), at first", empty().clearText(), 0);
        sentence("10", "Types a character behind the text.");
        sentence("10", "Returns the length of the text then; FULL if it has 80 characters.");
        for (int length : new int[] {0, 1, 78, 79}) {
            KiteRegisters x = typed(Bench::busy, length);
            due("type behind " + length, x.type('y'), length + 1);
            due("count(12)", x.count(12), length + 1);
            due("count(11), no act", x.count(11), 4);
            same("type behind " + length, state(x), state(busy()));
        }
        for (char character : new char[] {'x', ';', '0', 0, 65535}) {
            unchanged("type(" + (int) character + ") behind 80", () -> typed(Bench::busy, 80), x -> x.type(character),
                    FULL);
        }
        KiteRegisters x = typed(Bench::empty, 80);
        due("type, the 81st", x.type('y'), FULL);
        due("type, the 82nd", x.type('y'), FULL);
        due("clearText()", x.clearText(), 80);
        due("type, the 1st again", x.type('y'), 1);
        // The one that was refused is not in the text.
        String text = repeated("read 10;", 9) + "wind 0 1";
        x = entered(TextBoundaries::eleven, text);
        due("type behind 80", x.type(';'), FULL);
        due("perform()", x.perform(), 10);
    }

    private static void typeAnyCharacter() {
        sentence("10", "`character`: any character");
        for (int c : new int[] {0, 1, 31, 32, 126, 127, 128, 255, 256, 32767, 32768, 65534, 65535}) {
            KiteRegisters x = empty();
            due("type(" + c + ")", x.type((char) c), 1);
            due("perform() of character " + c, x.perform(), -10100);
            due("clearText()", x.clearText(), 1);
        }
        // None of them stands for another one, as its last eight bits would.
        for (int more : new int[] {256, 65280}) {
            for (int i = 0; i < 6; i++) {
                char[] text = "read 0".toCharArray();
                text[i] += (char) more;
                fault(new String(text), i);
            }
        }
    }

    private static void clearText() {
        sentence("11", "Empties the text.");
        sentence("11", "Returns the length that it had.");
        for (int length : new int[] {0, 1, 79, 80}) {
            KiteRegisters x = typed(Bench::busy, length);
            due("clearText() of " + length, x.clearText(), length);
            due("count(12)", x.count(12), 0);
            due("count(11), no act", x.count(11), 4);
            same("clearText() of " + length, state(x), state(busy()));
            due("clearText() again", x.clearText(), 0);
            due("perform() of nothing", x.perform(), -10100);
            due("type", x.type('r'), 1);
            due("perform() of 'r', nothing is left behind it", x.perform(), -10101);
        }
        unchanged("clearText() of the empty text", () -> typed(Bench::busy, 0), KiteRegisters::clearText, 0);
    }

    private static void textIsNoState() {
        sentence("10 11 14 16", "A state is everything but the text, the history, the snapshot and the latest stop.");
        KiteRegisters x = entered(Bench::busy, "beat 1");
        x.undo();
        due("count(12) behind undo()", x.count(12), 6);
        x.restore();
        due("count(12) behind restore()", x.count(12), 6);
        due("perform()", x.perform(), 1);
        x.clearText();
        x.undo();
        due("count(12), cleared, behind undo()", x.count(12), 0);
        x.restore();
        due("count(12), cleared, behind restore()", x.count(12), 0);
    }

    // ---- which texts there are

    private static void oneOrMoreCommands() {
        sentence("12", COMMANDS);
        fault("", 0);
        fault(";", 0);
        good("read 0", Bench::full, 1);
        fault("read 0;", 7);
        fault(";read 0", 0);
        fault("read 0;;read 0", 7);
        good("read 0;read 0", Bench::full, 2);
        fault("read 0;read 0;", 14);
        fault("read 0:read 0", 6);
        fault("read 0,read 0", 6);
        fault("read 0\nread 0", 6);
        for (int commands = 1; commands <= 11; commands++) {
            String text = repeated("read 0;", commands);
            fault(text, text.length());
            good(text.substring(0, text.length() - 1), Bench::full, commands);
        }
    }

    private static void flyRanges() {
        sentence("12", COMMANDS);
        fault("fly -1 0", 4);
        for (int s = 0; s <= 3; s++) {
            good("fly " + s + " 0", Bench::busy, 1);
        }
        for (int s = 4; s <= 9; s++) {
            fault("fly " + s + " 0", 4);
        }
        for (int s = 0; s <= 3; s++) {
            fault("fly " + s + "0 0", 5);
        }
        fault("fly 0 -1001", 10);
        fault("fly 0 -1000", 10);
        for (int number : new int[] {-999, -998, -100, -99, -10, -9, -1, 0, 1, 9, 10, 99, 100, 998, 999}) {
            KiteRegisters x = empty();
            due("perform()", performed(x, "fly 3 " + number), 1);
            due("kite(0, 0)", x.kite(0, 0), number);
            good("fly 3 " + number, Bench::empty, 1);
        }
        fault("fly 0 1000", 9);
        fault("fly 0 1001", 9);
        fault("fly 0", 5);
        fault("fly 0 0 0", 7);
    }

    private static void kiteRanges() {
        sentence("12", COMMANDS);
        String[] verbs = {"read", "write"};
        String[] ends = {"", " 7"};
        for (int v = 0; v < 2; v++) {
            String verb = verbs[v];
            int at = verb.length() + 1;
            fault(verb + " -1" + ends[v], at);
            for (int k = 0; k <= 11; k++) {
                good(verb + " " + k + ends[v], Bench::full, 1);
            }
            for (int k = 12; k <= 19; k++) {
                fault(verb + " " + k + ends[v], at + 1);
            }
            for (int k = 20; k <= 90; k += 10) {
                fault(verb + " " + k + ends[v], at + 1);
            }
            fault(verb + " 100" + ends[v], at + 2);
            fault(verb + " 110" + ends[v], at + 2);
            fault(verb + " 111" + ends[v], at + 2);
        }
        for (int number : new int[] {-999, -998, -1, 0, 1, 998, 999}) {
            KiteRegisters x = full();
            due("perform()", performed(x, "write 11 " + number), 1);
            due("kite(11, 0)", x.kite(11, 0), number);
        }
        fault("write 11 -1000", 13);
        fault("write 11 1000", 12);
        fault("write 11", 8);
        fault("read 11 1", 7);
    }

    private static void beatRange() {
        sentence("12", COMMANDS);
        fault("beat -1", 5);
        fault("beat 0", 5);
        for (int beats = 1; beats <= 20; beats++) {
            KiteRegisters x = empty();
            due("perform()", performed(x, "beat " + beats), 1);
            due("count(10)", x.count(10), beats);
        }
        good("beat 1", Bench::busy, 1);
        good("beat 20", Bench::busy, 1);
        for (int beats : new int[] {21, 22, 29, 30, 90, 99}) {
            fault("beat " + beats, 6);
        }
        fault("beat 100", 7);
        fault("beat 200", 7);
        fault("beat 1 1", 6);
    }

    private static void windRanges() {
        sentence("12", COMMANDS);
        fault("wind -1 0", 5);
        for (int b = 0; b <= 7; b++) {
            KiteRegisters x = empty();
            due("perform()", performed(x, "wind " + b + " 9"), 1);
            due("windOf(" + b + ")", x.windOf(b), 9);
        }
        fault("wind 8 0", 5);
        fault("wind 9 0", 5);
        fault("wind 10 0", 6);
        fault("wind 70 0", 6);
        fault("wind 7 -1", 7);
        for (int w = 0; w <= 9; w++) {
            KiteRegisters x = empty();
            due("perform()", performed(x, "wind 7 " + w), 1);
            due("windOf(7)", x.windOf(7), w);
        }
        fault("wind 7 10", 8);
        fault("wind 7 90", 8);
        good("wind 0 0", Bench::busy, 1);
        good("wind 7 9", Bench::busy, 1);
        fault("wind 7", 6);
        fault("wind 7 9 9", 8);
    }

    private static void oneBlank() {
        sentence("12", COMMANDS);
        fault("read0", 4);
        good("read 0", Bench::busy, 1);
        fault("read  0", 5);
        fault("write 00", 7);
        fault("write 0", 7);
        fault("write 0  0", 8);
        good("write 0 0", Bench::busy, 1);
        fault("fly 0-1", 5);
        fault("fly 0 - 1", 7);
        good("fly 0 -1", Bench::busy, 1);
        fault("read\t0", 4);
        fault("read_0", 4);
        // None anywhere else.
        fault(" read 0", 0);
        fault("r ead 0", 1);
        fault("read 0 ", 6);
        fault("read 0 ;read 0", 6);
        fault("read 0; read 0", 7);
    }

    private static void firstDigits() {
        sentence("12", NUMBERS);
        good("fly 0 0", Bench::busy, 1);
        for (String next : new String[] {"0", "1", "9"}) {
            fault("fly 0" + next + " 0", 5);
            fault("fly 0 0" + next, 7);
            fault("read 0" + next, 6);
            fault("write 0" + next + " 0", 7);
            fault("write 0 0" + next, 9);
            fault("beat 0" + next, 5);
            fault("wind 0" + next + " 0", 6);
            fault("wind 0 0" + next, 8);
        }
        good("fly 0 100", Bench::busy, 1);
        good("fly 0 -100", Bench::busy, 1);
        good("beat 10", Bench::busy, 1);
        good("read 10", Bench::full, 1);
    }

    private static void minusSigns() {
        sentence("12", NUMBERS);
        good("fly 0 -1", Bench::busy, 1);
        good("write 0 -9", Bench::busy, 1);
        fault("fly 0 -0", 7);
        fault("write 0 -0", 9);
        fault("fly 0 -01", 7);
        fault("fly 0 --1", 7);
        fault("fly 0 -", 7);
        fault("fly 0 -;", 7);
        fault("fly 0 - 1", 7);
        fault("fly 0 -a", 7);
        fault("fly 0 -:", 7);
        fault("fly 0 -/", 7);
        fault("fly 0 1-", 7);
        fault("fly 0 +1", 6);
        fault("fly -0 0", 4);
        fault("fly -1 0", 4);
        fault("read -1", 5);
        fault("read -0", 5);
        fault("write -1 0", 6);
        fault("beat -1", 5);
        fault("wind -1 0", 5);
        fault("wind 0 -1", 7);
        fault("wind 0 -0", 7);
    }

    private static void lastDigits() {
        sentence("12", NUMBERS);
        // One digit less is allowed each time, and the digit before the fault still is.
        good("fly 0 999", Bench::busy, 1);
        fault("fly 0 9990", 9);
        fault("fly 0 9999", 9);
        fault("fly 0 1000", 9);
        good("fly 0 -999", Bench::busy, 1);
        fault("fly 0 -9990", 10);
        fault("fly 0 -1000", 10);
        good("write 0 100", Bench::busy, 1);
        fault("write 0 1000", 11);
        fault("write 0 -1000", 12);
        good("read 11", Bench::full, 1);
        fault("read 110", 7);
        fault("read 12", 6);
        good("read 2", Bench::full, 1);
        fault("read 20", 6);
        good("beat 20", Bench::busy, 1);
        fault("beat 200", 7);
        fault("beat 21", 6);
        fault("wind 0 91", 8);
        // No number is so long that it is taken for a small one.
        fault("fly 0 4294967296", 9);
        fault("fly 0 -4294967297", 10);
        fault("read 4294967296", 6);
        fault("beat 4294967297", 6);
        fault("beat 1" + repeated("0", 70), 7);
    }

    // ---- where the fault is

    private static void faultIsTheFirst() {
        sentence("12", FAULT);
        fault("x", 0);
        fault("read 12;xyz", 6);
        fault("read 0;read 12;xyz", 13);
        fault("beat 0;beat 1", 5);
        fault("beat 1;beat 0", 12);
        fault("beat 1;fly 4 1000", 11);
        // A fault behind a command that would be stopped is still the text's fault, and nothing is stopped.
        KiteRegisters x = empty();
        due("perform()", performed(x, "read 9;read 12"), -10113);
        due("stopped(0)", x.stopped(0), NONE);
        due("stopped(1)", x.stopped(1), NONE);
        due("perform() without it", performed(x, "read 9;read 1"), NOT_POSSIBLE);
        due("stopped(0)", x.stopped(0), 0);
        fault("fly 0 1;fly 0 2;x", 16);
    }

    private static void endsTooEarly() {
        sentence("12", FAULT);
        fault("", 0);
        String[] texts = {"fly 3 -999", "read 11", "write 10 -100", "beat 20", "wind 7 9", "wind 0 2;fly 1 5"};
        for (String text : texts) {
            for (int length = 0; length < text.length(); length++) {
                String begun = text.substring(0, length);
                if (begun.matches("(.*;)?(fly \\d -?\\d+|read \\d+|write \\d+ -?\\d+|beat \\d+|wind \\d \\d)")) {
                    good(begun, TextBoundaries::eleven, begun.contains(";") ? 2 : 1);
                } else {
                    fault(begun, length);
                }
            }
        }
        good("wind 0 2;fly 1 5", TextBoundaries::eleven, 2);
    }

    private static void wrongCharacters() {
        sentence("12", FAULT);
        String[] texts = {"fly 3 -999", "read 11", "write 10 -100", "beat 20", "wind 7 9"};
        for (String text : texts) {
            for (int i = 0; i < text.length(); i++) {
                fault(text.substring(0, i) + "#" + text.substring(i + 1), i);
                fault("read 0;" + text.substring(0, i) + "#" + text.substring(i + 1), 7 + i);
            }
            fault(text + "#", text.length());
            fault(text.substring(0, 1).toUpperCase() + text.substring(1), 0);
            fault(text.substring(0, 2) + text.substring(2, 3).toUpperCase() + text.substring(3), 2);
        }
        // Words that begin alike, and words that are none.
        fault("wread 0", 2);
        fault("wrind 0 0", 3);
        fault("wite 0 0", 2);
        fault("wi", 2);
        fault("wr", 2);
        fault("w", 1);
        fault("flyy 0 0", 3);
        fault("reads 0", 4);
        fault("writer 0 0", 5);
        fault("beats 1", 4);
        fault("winds 0 0", 4);
        fault("move 0 1", 0);
        fault("set 0 5", 0);
        fault("undo", 0);
        // The signs right beside the digits.
        fault("read /", 5);
        fault("read :", 5);
        fault("read 1/", 6);
        fault("read 1:", 6);
        // No character stands for the text's end.
        fault("read 1\u0000", 6);
        fault("read 1\uffff", 6);
        fault("read\u0000", 4);
    }

    private static void longestText() {
        sentence("12", FAULT);
        String nine = repeated("read 10;", 9);
        good(nine + "beat 20", TextBoundaries::eleven, 10);
        good(nine + "wind 0 1", TextBoundaries::eleven, 10);
        fault(nine + "wind 0 x", 79);
        fault(nine + "beat 20;", 80);
        fault(nine + "beat 1;w", 80);
        fault(nine + "beat 1;x", 79);
        fault(nine + "wind 0", 78);
        fault(nine + "wind 0 ", 79);
        // Ended by what is not taken any more: the number, and the command behind it.
        good(nine + "fly 0 55;", TextBoundaries::eleven, 10);
        KiteRegisters x = entered(TextBoundaries::eleven, nine + "fly 0 123");
        due("perform()", x.perform(), 10);
        due("kite(11, 0), its third digit was not taken", x.kite(11, 0), 12);
        fault(repeated(" ", 80), 0);
        fault(repeated("read 0;", 11), 77);
        fault(repeated("read 0;", 11) + "rea", 80);
        fault(repeated("read 0;", 11) + "red", 79);
    }

    // ---- perform

    private static void performReturns() {
        sentence("12", "Returns how many commands there are; -10100 minus the fault of the text if it has one (which is "
                + "an error); NOT_POSSIBLE if any is stopped.");
        due("perform() of one", performed(full(), "beat 1"), 1);
        due("perform() of two", performed(full(), "beat 1;beat 1"), 2);
        due("perform() of ten", performed(full(), repeated("beat 1;", 9) + "beat 1"), 10);
        due("perform() of eleven", performed(full(), repeated("beat 1;", 10) + "beat 1"), 11);
        due("perform(), the least fault", performed(full(), ""), -10100);
        due("perform(), the next fault", performed(full(), "b"), -10101);
        due("perform(), the most but one", performed(full(), repeated("beat 1;", 11) + "bex"), -10179);
        due("perform(), the most", performed(full(), repeated("beat 1;", 11) + "bea"), -10180);
        order("12");
        unchanged("perform(), a fault, and a stop before it", () -> entered(Bench::busy, "read 9;read"),
                KiteRegisters::perform, -10111);
        stops("read 9;read 0", Bench::busy, 0, UNKNOWN);
    }

    private static void performLeavesTheText() {
        sentence("12", "Carries out the commands of the text, which stays, one after the other; all of them, or none. "
                + "This is one act.");
        String[] texts = {"beat 1;beat 2", "read 9", "beat 0"};
        for (String text : texts) {
            KiteRegisters x = entered(Bench::busy, text);
            int answer = x.perform();
            due("count(12) behind '" + text + "'", x.count(12), text.length());
            due("perform() again", x.perform(), answer);
        }
        for (int commands : new int[] {1, 2, 10, 11}) {
            String text = repeated("beat 1;", commands - 1) + "beat 1";
            KiteRegisters x = entered(Bench::empty, text);
            due("perform()", x.perform(), commands);
            due("count(11), one act", x.count(11), 1);
            due("count(10)", x.count(10), commands);
            due("undo()", x.undo(), 0);
            due("count(10), undone at once", x.count(10), 0);
            good(text, Bench::busy, commands);
        }
    }

    private static void oneAfterTheOther() {
        sentence("12", "one after the other;");
        KiteRegisters x = empty();
        due("perform()", performed(x, "fly 0 1;fly 0 2;read 0;wind 0 9;read 1;beat 1;write 0 5"), 7);
        due("kite(0, 2), read at the wind 2", x.kite(0, 2), 3);
        due("kite(1, 2), read at the wind 9", x.kite(1, 2), 11);
        due("kite(0, 3), written behind the beat", x.kite(0, 3), 1);
        due("kite(1, 3), read before the beat", x.kite(1, 3), 0);
        x = empty();
        due("perform() the other way round", performed(x, "fly 0 1;write 0 5;beat 1;fly 0 2;wind 1 9;read 1;read 0"), 7);
        due("kite(1, 2)", x.kite(1, 2), 11);
        due("kite(0, 2)", x.kite(0, 2), 10);
    }

    private static void allOrNone() {
        sentence("12", "all of them, or none.");
        // The stop is at the first command, in the middle, at the last but one, and at the last.
        stops("read 9;beat 1;fly 0 5", Bench::busy, 0, UNKNOWN);
        stops("beat 1;read 9;fly 0 5", Bench::busy, 1, UNKNOWN);
        stops("beat 1;fly 0 5;wind 1 9;read 9;read 0", Bench::busy, 3, UNKNOWN);
        stops("beat 1;fly 0 5;wind 1 9;read 0;read 9", Bench::busy, 4, UNKNOWN);
        stops("write 0 1;write 2 2;beat 20;read 0;read 0;read 0;write 9 9", Bench::busy, 6, UNKNOWN);
        good("beat 1;fly 0 5;wind 1 9;read 0;read 5", Bench::busy, 5);
        // The latest stop is the one thing that a refused call changes.
        sentence("12", "A call that returns an error or NONE changes nothing (but for the latest stop of perform()).");
        KiteRegisters x = stops("beat 1;read 9", Bench::busy, 1, UNKNOWN);
        x.perform();
        same("behind the stop", state(x), state(busy()));
    }

    private static void stoppedByErrors() {
        sentence("12", "one that would return an error stops it.");
        // Kites 0 to 4 are there; a sixth one gets the number 5.
        good("read 4", Bench::busy, 1);
        stops("read 5", Bench::busy, 0, UNKNOWN);
        stops("write 5 1", Bench::busy, 0, UNKNOWN);
        good("fly 0 1;read 5;write 5 1", Bench::busy, 3);
        stops("fly 0 1;read 6", Bench::busy, 1, UNKNOWN);
        stops("fly 0 1;write 6 1", Bench::busy, 1, UNKNOWN);
        stops("read 11", TextBoundaries::eleven, 0, UNKNOWN);
        good("read 10", TextBoundaries::eleven, 1);
        // FULL: from 10 kites on, from 11, and from 12.
        Start ten = () -> without(eleven(), 0);
        good("fly 0 1;fly 0 2", ten, 2);
        stops("fly 0 1;fly 0 2;fly 0 3", ten, 2, FULL);
        good("fly 0 1", TextBoundaries::eleven, 1);
        stops("fly 0 1;fly 0 2", TextBoundaries::eleven, 1, FULL);
        stops("fly 0 1", Bench::full, 0, FULL);
        stops("beat 1;fly 3 -1", Bench::full, 1, FULL);
    }

    private static void doesNothing() {
        sentence("12", "A command that does nothing (it would return NONE) does not stop it;");
        // The wind of the beat 1 is 3 there.
        KiteRegisters x = entered(Bench::busy, "wind 1 3;beat 1;wind 1 4;wind 1 4;wind 1 3");
        due("perform()", x.perform(), 5);
        due("windOf(1)", x.windOf(1), 3);
        due("count(10)", x.count(10), 2);
        good("wind 1 3;beat 1", Bench::busy, 2);
        good("beat 1;wind 1 3", Bench::busy, 2);
        good("wind 1 2;wind 1 4", Bench::busy, 2);
        // All of them do nothing: they are carried out still, and how many they are is no error and not NONE.
        good("wind 1 3", Bench::busy, 1);
        good("wind 1 3;wind 0 9", Bench::busy, 2);
        stops("wind 1 3;read 9", Bench::busy, 1, UNKNOWN);
    }

    // ---- stopped

    private static void stoppedWhat() {
        sentence("13", "`what`: 0 for the number of the command in its text, from 0, 1 for the error");
        for (int what : new int[] {MIN, -2, -1, 2, 3, MAX}) {
            unchanged("stopped(" + what + ")", Bench::busy, x -> x.stopped(what), BAD_VALUE);
            unchanged("stopped(" + what + "), none yet", Bench::empty, x -> x.stopped(what), BAD_VALUE);
        }
        unchanged("stopped(0)", Bench::busy, x -> x.stopped(0), 1);
        unchanged("stopped(1)", Bench::busy, x -> x.stopped(1), UNKNOWN);
        for (int command : new int[] {0, 1, 9, 10}) {
            String text = repeated("read 0;", command) + "read 9";
            stops(text, Bench::busy, command, UNKNOWN);
        }
        stops(repeated("read 0;", 9) + "fly 0 1", Bench::full, 9, FULL);
    }

    private static void stoppedReturns() {
        sentence("13", "Tells of the latest stop of perform().");
        KiteRegisters x = entered(Bench::full, "read 0;fly 0 1");
        x.perform();
        due("stopped(0), the first one", x.stopped(0), 1);
        due("stopped(1), the first one", x.stopped(1), FULL);
        x.takeDown(3);
        performed(x, "read 0;read 0;write 3 1");
        due("stopped(0), the second one", x.stopped(0), 2);
        due("stopped(1), the second one", x.stopped(1), UNKNOWN);
        // Neither a fault nor what is carried out nor undo and restore are a stop.
        performed(x, "read 12");
        performed(x, "read 0");
        x.undo();
        x.restore();
        x.clearText();
        due("stopped(0), as before", x.stopped(0), 2);
        due("stopped(1), as before", x.stopped(1), UNKNOWN);
        sentence("13", "Returns the number; BAD_VALUE; NONE if none was stopped yet.");
        unchanged("stopped(0), none yet", Bench::full, y -> y.stopped(0), NONE);
        unchanged("stopped(1), none yet", Bench::full, y -> y.stopped(1), NONE);
        x = full();
        due("perform()", x.perform(), 2);
        performed(x, "read 12");
        x.fly(0, 1);
        x.read(12);
        due("stopped(0), only calls were refused", x.stopped(0), NONE);
        due("stopped(1), only calls were refused", x.stopped(1), NONE);
        order("13");
        due("stopped(2)", x.stopped(2), BAD_VALUE);
        performed(x, "fly 0 1");
        due("stopped(0), then", x.stopped(0), 0);
        due("stopped(1), then", x.stopped(1), FULL);
        due("stopped(2), then", x.stopped(2), BAD_VALUE);
    }
}
