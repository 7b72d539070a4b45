import java.util.Map;

/** For each promise of the document: ordinary inputs, its edges, and wrong inputs. */
public final class PromiseTests extends Bench {

    private PromiseTests() {
    }

    public static void main(String[] args) {
        newObject();
        fly();
        flyLandsAndFillsGaps();
        takeDown();
        read();
        readIsCut();
        readIsCutOnlyOnce();
        write();
        move();
        beat();
        beatSinksFromTheLowestOn();
        beatSinksAllOfAString();
        wind();
        set();
        type();
        clearText();
        performNumbers();
        performFaults();
        performIsOneAct();
        performStops();
        stopped();
        undo();
        keep();
        restore();
        restoreBringsBackAll();
        kite();
        string();
        drawn();
        share();
        windOf();
        ifRead();
        readsToCut();
        downIn();
        safeWind();
        calmest();
        count();
        actsAreRecorded();
        wrongCallsChangeNothing();
        end("all promises hold");
    }

    private static KiteRegisters begin(String name) {
        about(name);
        return new KiteRegisters();
    }

    private static void fault(String text, int index) {
        KiteRegisters x = new KiteRegisters();
        x.fly(0, 1);
        due("perform() of '" + text + "'", performed(x, text), -10100 - index);
        due("states after the fault of '" + text + "'", x.count(11), 1);
        due("stopped(0) after the fault of '" + text + "'", x.stopped(0), NONE);
    }

    private static void commands(String text, int count) {
        KiteRegisters x = new KiteRegisters();
        for (int i = 0; i < 11; i++) {
            x.fly(i & 3, i);
        }
        due("perform() of '" + text + "'", performed(x, text), count);
    }

    // ---- kites

    private static void newObject() {
        KiteRegisters x = begin("1 a new object");
        int[] counts = {0, 0, 2, 0, 0, 0, 0, 0, 30, 1, 0, 0, 0};
        for (int w = 0; w < counts.length; w++) {
            due("count(" + w + ")", x.count(w), counts[w]);
        }
        for (int s = 0; s < 4; s++) {
            due("string(" + s + ", 0)", x.string(s, 0), 0);
            due("string(" + s + ", 5)", x.string(s, 5), 0);
        }
        for (int b = 0; b < 8; b++) {
            due("windOf(" + b + ")", x.windOf(b), 2);
        }
        for (int k = 0; k < 12; k++) {
            due("kite(" + k + ", 0)", x.kite(k, 0), UNKNOWN);
        }
        due("undo()", x.undo(), NONE);
        due("restore()", x.restore(), NONE);
        due("stopped(0)", x.stopped(0), NONE);
        due("perform()", x.perform(), -10100);
        KiteRegisters y = new KiteRegisters();
        x.fly(0, 1);
        due("another object's count(0)", y.count(0), 0);
        due("UNKNOWN", KiteRegisters.UNKNOWN, UNKNOWN);
        due("BAD_VALUE", KiteRegisters.BAD_VALUE, BAD_VALUE);
        due("FULL", KiteRegisters.FULL, FULL);
        due("NOT_POSSIBLE", KiteRegisters.NOT_POSSIBLE, NOT_POSSIBLE);
        due("NONE", KiteRegisters.NONE, NONE);
    }

    private static void fly() {
        KiteRegisters x = begin("2 fly");
        due("fly(0, -999)", x.fly(0, -999), 0);
        due("fly(3, 999)", x.fly(3, 999), 1);
        due("kite(0, 0)", x.kite(0, 0), -999);
        due("kite(1, 0)", x.kite(1, 0), 999);
        due("kite(1, 1)", x.kite(1, 1), 3);
        due("kite(1, 2)", x.kite(1, 2), 0);
        due("kite(1, 3)", x.kite(1, 3), 0);
        due("fly(-1, 0)", x.fly(-1, 0), UNKNOWN);
        due("fly(4, 0)", x.fly(4, 0), UNKNOWN);
        due("fly(4, 1000)", x.fly(4, 1000), UNKNOWN);
        due("fly(0, 1000)", x.fly(0, 1000), BAD_VALUE);
        due("fly(0, -1000)", x.fly(0, -1000), BAD_VALUE);
        due("fly(0, MIN)", x.fly(0, Integer.MIN_VALUE), BAD_VALUE);
        due("fly(MAX, 0)", x.fly(Integer.MAX_VALUE, 0), UNKNOWN);
        for (int k = 2; k < 12; k++) {
            due("fly(1, " + k + ")", x.fly(1, k), k);
        }
        due("fly(0, 0) with 12", x.fly(0, 0), FULL);
        due("fly(0, 1000) with 12", x.fly(0, 1000), BAD_VALUE);
        due("fly(9, 0) with 12", x.fly(9, 0), UNKNOWN);
    }

    private static void flyLandsAndFillsGaps() {
        KiteRegisters x = begin("2 fly lands");
        x.fly(2, 1);
        x.fly(2, 2);
        x.fly(2, 3);
        due("kite(2, 2)", x.kite(2, 2), 2);
        x.read(1);
        due("kite(1, 2)", x.kite(1, 2), 4);
        x.takeDown(0);
        // The heights 2 and 4 are taken: a new kite gets 0, the next 1, the next 3, as 2 is not free.
        due("fly(2, 4)", x.fly(2, 4), 0);
        due("kite(0, 2)", x.kite(0, 2), 0);
        due("fly(2, 5)", x.fly(2, 5), 3);
        due("kite(3, 2)", x.kite(3, 2), 1);
        due("fly(2, 6)", x.fly(2, 6), 4);
        due("kite(4, 2)", x.kite(4, 2), 3);
        x.set(0, 5);
        x.read(4);
        due("kite(4, 5), cut", x.kite(4, 5), 1);
        x.takeDown(4);
        due("fly(0, 7)", x.fly(0, 7), 4);
        due("kite(4, 3)", x.kite(4, 3), 0);
        due("kite(4, 4)", x.kite(4, 4), 0);
        due("kite(4, 5)", x.kite(4, 5), 0);
        x = begin("2 fly, all on one string");
        for (int k = 0; k < 12; k++) {
            due("fly(3, 0)", x.fly(3, 0), k);
            due("kite(" + k + ", 2)", x.kite(k, 2), k);
        }
    }

    private static void takeDown() {
        KiteRegisters x = begin("3 takeDown");
        x.fly(0, 5);
        x.fly(0, -6);
        x.fly(0, 7);
        x.read(1);
        due("takeDown(1)", x.takeDown(1), -6);
        due("takeDown(1) again", x.takeDown(1), UNKNOWN);
        due("kite(1, 0)", x.kite(1, 0), UNKNOWN);
        due("count(0)", x.count(0), 2);
        due("count(3)", x.count(3), 1);
        due("count(5)", x.count(5), 0);
        due("string(0, 0)", x.string(0, 0), 2);
        due("string(0, 4)", x.string(0, 4), 12);
        due("takeDown(-1)", x.takeDown(-1), UNKNOWN);
        due("takeDown(12)", x.takeDown(12), UNKNOWN);
        due("takeDown(MIN)", x.takeDown(Integer.MIN_VALUE), UNKNOWN);
        due("fly(3, 1)", x.fly(3, 1), 1);
        due("undo()", x.undo(), 3);
        due("undo()", x.undo(), 2);
    }

    private static void read() {
        KiteRegisters x = begin("4 read");
        x.fly(0, -999);
        x.fly(0, 2);
        due("read(0)", x.read(0), -999);
        due("kite(0, 2)", x.kite(0, 2), 3);
        due("kite(0, 3)", x.kite(0, 3), 1);
        due("kite(0, 4)", x.kite(0, 4), 1);
        due("kite(1, 3)", x.kite(1, 3), 0);
        due("count(3)", x.count(3), 1);
        x.wind(0, 0);
        // One above 1 is 2; then 3 is taken, so it is put to 4.
        due("read(1)", x.read(1), 2);
        due("kite(1, 2)", x.kite(1, 2), 2);
        due("read(1)", x.read(1), 2);
        due("kite(1, 2)", x.kite(1, 2), 4);
        x.wind(1, 9);
        x.beat(1);
        due("kite(1, 2) behind a beat", x.kite(1, 2), 4);
        due("read(1)", x.read(1), 2);
        due("kite(1, 2)", x.kite(1, 2), 14);
        due("kite(1, 4)", x.kite(1, 4), 3);
        due("read(2)", x.read(2), UNKNOWN);
        due("read(-1)", x.read(-1), UNKNOWN);
        due("read(12)", x.read(12), UNKNOWN);
        due("count(3)", x.count(3), 4);
    }

    private static void readIsCut() {
        KiteRegisters x = begin("4 read, cut off");
        x.fly(3, 8);
        x.fly(0, 1);
        x.set(0, 6);
        x.read(0);
        x.read(0);
        due("kite(0, 2) at the cut", x.kite(0, 2), 6);
        due("kite(0, 5) at the cut", x.kite(0, 5), 0);
        due("read(0)", x.read(0), 8);
        due("kite(0, 1)", x.kite(0, 1), 0);
        due("kite(0, 2)", x.kite(0, 2), 1);
        due("kite(0, 3)", x.kite(0, 3), 1);
        due("kite(0, 4)", x.kite(0, 4), 3);
        due("kite(0, 5)", x.kite(0, 5), 1);
        due("string(3, 5)", x.string(3, 5), 1);
        due("string(0, 5)", x.string(0, 5), 0);
        due("count(4)", x.count(4), 1);
        x.takeDown(0);
        due("count(4) behind takeDown", x.count(4), 1);
        due("string(3, 5) behind takeDown", x.string(3, 5), 1);
        // It would be at the cut, but for a kite that is there already, so it is put above it.
        x.fly(2, 3);
        x.fly(2, 4);
        x.read(0);
        x.read(0);
        x.read(2);
        x.wind(0, 1);
        due("kite(0, 2)", x.kite(0, 2), 6);
        due("kite(2, 2)", x.kite(2, 2), 4);
        due("read(2)", x.read(2), 4);
        due("kite(2, 1)", x.kite(2, 1), 3);
        due("kite(2, 2)", x.kite(2, 2), 0);
        due("string(2, 5)", x.string(2, 5), 1);
    }

    private static void readIsCutOnlyOnce() {
        KiteRegisters x = begin("4 read, cut off once");
        x.set(0, 5);
        for (int k = 0; k < 7; k++) {
            x.fly(1, k);
        }
        due("kite(6, 2), above the cut by landing", x.kite(6, 2), 6);
        x.fly(0, 70);
        x.read(7);
        due("read(7)", x.read(7), 70);
        due("kite(7, 1)", x.kite(7, 1), 1);
        due("kite(7, 2)", x.kite(7, 2), 7);
        due("kite(7, 5)", x.kite(7, 5), 1);
        due("count(4)", x.count(4), 1);
        due("read(7)", x.read(7), 70);
        due("kite(7, 1)", x.kite(7, 1), 2);
        due("kite(7, 2)", x.kite(7, 2), 0);
        due("kite(7, 5)", x.kite(7, 5), 2);
        due("string(0, 5)", x.string(0, 5), 1);
        due("string(1, 5)", x.string(1, 5), 1);
    }

    private static void write() {
        KiteRegisters x = begin("5 write");
        x.fly(0, 5);
        x.fly(0, 6);
        due("write(0, -999)", x.write(0, -999), 5);
        due("write(0, 999)", x.write(0, 999), -999);
        due("kite(0, 0)", x.kite(0, 0), 999);
        due("kite(0, 2)", x.kite(0, 2), 0);
        due("kite(0, 3)", x.kite(0, 3), 1);
        due("kite(0, 4)", x.kite(0, 4), 0);
        due("count(3)", x.count(3), 0);
        due("count(5)", x.count(5), 1);
        due("write(1, 6), as it is", x.write(1, 6), 6);
        due("kite(1, 3)", x.kite(1, 3), 1);
        due("write(2, 0)", x.write(2, 0), UNKNOWN);
        due("write(2, 1000)", x.write(2, 1000), UNKNOWN);
        due("write(-1, 0)", x.write(-1, 0), UNKNOWN);
        due("write(0, 1000)", x.write(0, 1000), BAD_VALUE);
        due("write(0, -1000)", x.write(0, -1000), BAD_VALUE);
        x.beat(1);
        due("kite(1, 2), written", x.kite(1, 2), 1);
        due("count(5)", x.count(5), 0);
    }

    private static void move() {
        KiteRegisters x = begin("6 move");
        x.fly(0, 1);
        x.fly(1, 2);
        x.read(0);
        x.read(1);
        x.fly(1, 3);
        due("move(0, 1)", x.move(0, 1), 4);
        due("kite(0, 1)", x.kite(0, 1), 1);
        due("kite(0, 2)", x.kite(0, 2), 4);
        due("kite(0, 3), fresh as before", x.kite(0, 3), 1);
        due("kite(0, 4)", x.kite(0, 4), 1);
        due("move(0, 1), it is there", x.move(0, 1), NONE);
        due("move(2, 3)", x.move(2, 3), 0);
        due("kite(2, 3), not fresh as before", x.kite(2, 3), 0);
        due("move(2, 4)", x.move(2, 4), UNKNOWN);
        due("move(2, -1)", x.move(2, -1), UNKNOWN);
        due("move(3, 0)", x.move(3, 0), UNKNOWN);
        due("move(-1, 0)", x.move(-1, 0), UNKNOWN);
        due("move(12, 9)", x.move(12, 9), UNKNOWN);
        // A kite that is above the cut by a move stays.
        x.set(0, 5);
        x.move(1, 2);
        x.read(1);
        due("kite(1, 1), cut", x.kite(1, 1), 3);
        due("kite(1, 2), cut", x.kite(1, 2), 1);
        x.set(0, 80);
        for (int i = 0; i < 3; i++) {
            x.read(0);
        }
        x.set(0, 5);
        due("move(0, 0)", x.move(0, 0), 13);
        due("count(4)", x.count(4), 1);
    }

    // ---- beats, winds, settings

    private static void beat() {
        KiteRegisters x = begin("7 beat");
        due("beat(0)", x.beat(0), BAD_VALUE);
        due("beat(-1)", x.beat(-1), BAD_VALUE);
        due("beat(101)", x.beat(101), BAD_VALUE);
        due("beat(MAX)", x.beat(Integer.MAX_VALUE), BAD_VALUE);
        due("beat(7)", x.beat(7), 7);
        due("beat(1)", x.beat(1), 0);
        due("beat(100)", x.beat(100), 4);
        due("count(10)", x.count(10), 108);
        x.wind(5, 7);
        x.beat(1);
        due("count(2)", x.count(2), 7);
        x.fly(0, 1);
        x.read(0);
        x.write(0, 3);
        due("kite(0, 2)", x.kite(0, 2), 8);
        x.beat(1);
        due("kite(0, 2), fresh in the beat", x.kite(0, 2), 8);
        due("kite(0, 3)", x.kite(0, 3), 0);
        x.beat(3);
        due("kite(0, 2)", x.kite(0, 2), 5);
        x.set(1, 9);
        x.beat(1);
        due("kite(0, 2), not below 0", x.kite(0, 2), 0);
        x.read(0);
        x.set(1, 0);
        x.beat(100);
        due("kite(0, 2), nothing sinks", x.kite(0, 2), 3);
    }

    private static void beatSinksFromTheLowestOn() {
        KiteRegisters x = begin("7 beat sinks from the lowest on");
        x.fly(0, 1);
        x.fly(0, 2);
        x.fly(0, 3);
        x.fly(1, 4);
        x.wind(0, 9);
        // Kite 0 is the highest: 10; kite 1 is at 1, kite 2 at 2, kite 3 on another string at 10.
        x.read(0);
        x.read(3);
        x.takeDown(1);
        x.beat(1);
        due("kite(0, 2)", x.kite(0, 2), 10);
        due("kite(2, 2)", x.kite(2, 2), 1);
        x.set(1, 9);
        x.write(2, 30);
        x.beat(1);
        // The fresh kite 2 stays at 1, and kite 0 may not go through it.
        due("kite(2, 2)", x.kite(2, 2), 1);
        due("kite(0, 2)", x.kite(0, 2), 2);
        due("kite(3, 2)", x.kite(3, 2), 1);
        x.beat(1);
        due("kite(2, 2)", x.kite(2, 2), 0);
        due("kite(0, 2)", x.kite(0, 2), 1);
        due("kite(3, 2)", x.kite(3, 2), 0);
        x.beat(1);
        due("kite(0, 2)", x.kite(0, 2), 1);

        // By kites, not by numbers: kite 0 above kite 1 above kite 2, all sink by 1.
        x = begin("7 beat, a stack");
        x.fly(3, 1);
        x.fly(3, 2);
        x.fly(3, 3);
        x.wind(0, 3);
        x.read(2);
        x.wind(0, 5);
        x.read(1);
        x.read(0);
        due("kite(2, 2)", x.kite(2, 2), 6);
        due("kite(1, 2)", x.kite(1, 2), 7);
        due("kite(0, 2)", x.kite(0, 2), 8);
        x.beat(2);
        due("kite(2, 2)", x.kite(2, 2), 5);
        due("kite(1, 2)", x.kite(1, 2), 6);
        due("kite(0, 2)", x.kite(0, 2), 7);
        x.set(1, 5);
        x.beat(1);
        due("kite(2, 2)", x.kite(2, 2), 0);
        due("kite(1, 2)", x.kite(1, 2), 1);
        due("kite(0, 2)", x.kite(0, 2), 2);
    }

    private static void beatSinksAllOfAString() {
        KiteRegisters x = begin("7 beat, twelve kites");
        for (int k = 0; k < 12; k++) {
            x.fly(3, k);
        }
        x.wind(0, 9);
        for (int k = 0; k < 12; k++) {
            x.read(k);
        }
        x.beat(1);
        // Kite k is to be at k + 10, but two kites are in its way each time, so it is put to k + 12.
        for (int k = 0; k < 12; k++) {
            due("kite(" + k + ", 2), fresh in the beat", x.kite(k, 2), k + 12);
        }
        x.set(1, 9);
        x.beat(1);
        for (int k = 0; k < 12; k++) {
            due("kite(" + k + ", 2), sunk", x.kite(k, 2), k + 3);
        }
        x.beat(1);
        for (int k = 0; k < 12; k++) {
            due("kite(" + k + ", 2), down", x.kite(k, 2), k);
        }
    }

    private static void wind() {
        KiteRegisters x = begin("8 wind");
        due("wind(0, 9)", x.wind(0, 9), 2);
        due("wind(7, 0)", x.wind(7, 0), 2);
        due("wind(7, 0) again", x.wind(7, 0), NONE);
        due("windOf(7)", x.windOf(7), 0);
        due("windOf(0)", x.windOf(0), 9);
        due("windOf(1)", x.windOf(1), 2);
        due("wind(8, 0)", x.wind(8, 0), UNKNOWN);
        due("wind(-1, 10)", x.wind(-1, 10), UNKNOWN);
        due("wind(0, 10)", x.wind(0, 10), BAD_VALUE);
        due("wind(0, -1)", x.wind(0, -1), BAD_VALUE);
        due("count(11)", x.count(11), 2);
    }

    private static void set() {
        KiteRegisters x = begin("9 set");
        due("set(0, 5)", x.set(0, 5), 30);
        due("set(0, 80)", x.set(0, 80), 5);
        due("set(0, 80) again", x.set(0, 80), NONE);
        due("set(0, 4)", x.set(0, 4), BAD_VALUE);
        due("set(0, 81)", x.set(0, 81), BAD_VALUE);
        due("set(1, 0)", x.set(1, 0), 1);
        due("set(1, 9)", x.set(1, 9), 0);
        due("set(1, 9) again", x.set(1, 9), NONE);
        due("set(1, 10)", x.set(1, 10), BAD_VALUE);
        due("set(1, -1)", x.set(1, -1), BAD_VALUE);
        due("set(2, 5)", x.set(2, 5), UNKNOWN);
        due("set(-1, 99)", x.set(-1, 99), UNKNOWN);
        due("count(8)", x.count(8), 80);
        due("count(9)", x.count(9), 9);
        x.fly(2, 4);
        for (int i = 0; i < 4; i++) {
            x.read(0);
        }
        due("set(0, 6)", x.set(0, 6), 80);
        due("kite(0, 1), above the cut", x.kite(0, 1), 2);
        due("kite(0, 2), above the cut", x.kite(0, 2), 12);
        x.beat(1);
        x.write(0, 1);
        due("kite(0, 2), still", x.kite(0, 2), 12);
        x.read(0);
        due("kite(0, 1), read", x.kite(0, 1), 3);
    }

    // ---- texts

    private static void type() {
        KiteRegisters x = begin("10 type");
        char[] any = {'a', 0, 255, 256, 65535, ' ', '\n'};
        for (int i = 0; i < 80; i++) {
            due("type " + i, x.type(any[i % any.length]), i + 1);
        }
        due("type the 81st", x.type('a'), FULL);
        due("type the 81st", x.type(';'), FULL);
        due("count(12)", x.count(12), 80);
        due("count(11)", x.count(11), 0);
        due("clearText()", x.clearText(), 80);
        due("type", x.type('b'), 1);
        enter(x, "beat 1");
        x.fly(0, 1);
        x.undo();
        due("count(12) behind undo()", x.count(12), 6);
        due("perform()", x.perform(), 1);
        due("count(12) behind perform()", x.count(12), 6);
        due("perform() again", x.perform(), 1);
        due("count(10)", x.count(10), 2);
        StringBuilder eighty = new StringBuilder();
        for (int i = 0; i < 9; i++) {
            eighty.append("wind 7 9;");
        }
        due("perform() of 81 characters, the last one not taken", performed(x, eighty.toString()), 9);
        eighty.setCharAt(79, ';');
        due("perform() of 80 characters", performed(x, eighty.toString()), -10179);
        eighty.setLength(0);
        for (int i = 0; i < 11; i++) {
            eighty.append("read 0;");
        }
        due("perform() of 77 characters that ends too early", performed(x, eighty.toString()), -10177);
        due("perform() of 80 characters that ends too early", performed(x, eighty + "rea"), -10180);
    }

    private static void clearText() {
        KiteRegisters x = begin("11 clearText");
        due("clearText()", x.clearText(), 0);
        x.type('x');
        x.type('y');
        due("clearText()", x.clearText(), 2);
        due("clearText()", x.clearText(), 0);
        due("count(12)", x.count(12), 0);
        due("count(11)", x.count(11), 0);
        due("perform()", x.perform(), -10100);
    }

    private static void performNumbers() {
        begin("12 perform");
        commands("fly 0 0", 1);
        commands("fly 3 -999", 1);
        commands("fly 0 999", 1);
        commands("fly 0 -1;read 11", 2);
        commands("read 10;read 0;read 9", 3);
        commands("write 10 -10;write 1 100", 2);
        commands("beat 1;beat 20;beat 19;beat 9", 4);
        commands("wind 0 0;wind 7 9", 2);
        KiteRegisters x = begin("12 perform, what it does");
        due("perform()", performed(x, "fly 2 -45;fly 2 6;wind 0 4;read 0;write 1 70;beat 9"), 6);
        due("kite(0, 0)", x.kite(0, 0), -45);
        due("kite(0, 1)", x.kite(0, 1), 2);
        // Read at the wind 4: 5; the first beat finds it fresh, the eight others lower it to 1, kite 1 to 0.
        due("kite(0, 2)", x.kite(0, 2), 1);
        due("kite(1, 2)", x.kite(1, 2), 0);
        due("kite(1, 0)", x.kite(1, 0), 70);
        due("windOf(0)", x.windOf(0), 4);
        due("count(10)", x.count(10), 9);
        due("count(1)", x.count(1), 1);
        due("count(3)", x.count(3), 1);
    }

    private static void performFaults() {
        begin("12 perform, faults");
        fault("", 0);
        fault(" ", 0);
        fault("x", 0);
        fault(";", 0);
        fault("Fly 0 0", 0);
        fault("f", 1);
        fault("fl", 2);
        fault("fly", 3);
        fault("fly ", 4);
        fault("fly  0 0", 4);
        fault("fly;", 3);
        fault("flyy", 3);
        fault("fly -1 0", 4);
        fault("fly 00 0", 5);
        fault("fly 10 0", 5);
        fault("fly 4 0", 4);
        fault("fly 0", 5);
        fault("fly 0;", 5);
        fault("fly 0 ", 6);
        fault("fly 0 -", 7);
        fault("fly 0 --1", 7);
        fault("fly 0 -0", 7);
        fault("fly 0 +1", 6);
        fault("fly 0 01", 7);
        fault("fly 0 1000", 9);
        fault("fly 0 -1000", 10);
        fault("fly 0 999 ", 9);
        fault("fly 0 1 1", 7);
        fault("r", 1);
        fault("read", 4);
        fault("ready", 4);
        fault("read 12", 6);
        fault("read 20", 6);
        fault("read 100", 7);
        fault("read 00", 6);
        fault("read -1", 5);
        fault("read a", 5);
        fault("read 0 0", 6);
        fault("read 0;", 7);
        fault("read 0;;", 7);
        fault("read 0; read 0", 7);
        fault("read 0 ;read 0", 6);
        fault("read 0;wx", 8);
        fault("w", 1);
        fault("wr", 2);
        fault("wrong", 2);
        fault("write 12 0", 7);
        fault("write 0 0000", 9);
        fault("write 0 -1;beat 0", 16);
        fault("b", 1);
        fault("beat 0", 5);
        fault("beat 21", 6);
        fault("beat 30", 6);
        fault("beat 200", 7);
        fault("beat 1 1", 6);
        fault("beat -1", 5);
        fault("wi", 2);
        fault("wind 8 0", 5);
        fault("wind 0 -1", 7);
        fault("wind 0 10", 8);
        fault("wind 10 0", 6);
        fault("wind 07 0", 6);
        fault("wind 7 9\u0000", 8);
        fault("beat " + (char) (256 + '1'), 5);
        fault("beat \u0661", 5);
        fault("takeDown 0", 0);
    }

    private static void performIsOneAct() {
        KiteRegisters x = begin("12 perform is one act");
        x.fly(0, 1);
        due("perform()", performed(x, "fly 0 2;read 0;read 1"), 3);
        due("count(11)", x.count(11), 2);
        due("undo()", x.undo(), 1);
        due("count(0)", x.count(0), 1);
        due("kite(0, 2)", x.kite(0, 2), 0);
        due("perform() of what does nothing", performed(x, "wind 0 2;wind 1 2"), 2);
        due("count(11)", x.count(11), 2);
        due("perform() with one that does nothing", performed(x, "wind 0 2;wind 1 3;wind 1 3"), 3);
        due("windOf(1)", x.windOf(1), 3);
        due("stopped(0)", x.stopped(0), NONE);
    }

    private static void performStops() {
        KiteRegisters x = begin("12 perform is stopped");
        x.fly(0, 1);
        x.read(0);
        x.keep();
        Map<String, Integer> was = state(x);
        due("perform()", performed(x, "beat 3;wind 0 9;fly 1 1;write 0 8;read 1;read 2;read 0"), NOT_POSSIBLE);
        same("the state", state(x), was);
        due("count(11)", x.count(11), 2);
        due("stopped(0)", x.stopped(0), 5);
        due("stopped(1)", x.stopped(1), UNKNOWN);
        due("undo()", x.undo(), 1);
        due("kite(0, 2)", x.kite(0, 2), 0);
        for (int i = 0; i < 11; i++) {
            x.fly(2, i);
        }
        due("perform() when full", performed(x, "write 0 3;fly 0 0"), NOT_POSSIBLE);
        due("stopped(0)", x.stopped(0), 1);
        due("stopped(1)", x.stopped(1), FULL);
        due("kite(0, 0)", x.kite(0, 0), 1);
        x.takeDown(4);
        due("perform() with a kite of its own", performed(x, "fly 0 0;read 4;write 4 5"), 3);
        due("stopped(0), as before", x.stopped(0), 1);
    }

    private static void stopped() {
        KiteRegisters x = begin("13 stopped");
        due("stopped(0)", x.stopped(0), NONE);
        due("stopped(1)", x.stopped(1), NONE);
        due("stopped(2)", x.stopped(2), BAD_VALUE);
        due("stopped(-1)", x.stopped(-1), BAD_VALUE);
        x.keep();
        x.beat(1);
        performed(x, "beat 1;write 7 7");
        due("stopped(0)", x.stopped(0), 1);
        due("stopped(1)", x.stopped(1), UNKNOWN);
        performed(x, "beat 0");
        performed(x, "beat 1");
        x.restore();
        x.undo();
        x.undo();
        due("stopped(0), the latest one", x.stopped(0), 1);
        performed(x, "read 3");
        due("stopped(0)", x.stopped(0), 0);
        due("stopped(2)", x.stopped(2), BAD_VALUE);
    }

    // ---- history

    private static void undo() {
        KiteRegisters x = begin("14 undo");
        due("undo()", x.undo(), NONE);
        for (int i = 0; i < 7; i++) {
            x.fly(0, i);
            due("count(11)", x.count(11), Math.min(i + 1, 4));
        }
        due("undo()", x.undo(), 3);
        due("count(0)", x.count(0), 6);
        due("undo()", x.undo(), 2);
        due("undo()", x.undo(), 1);
        due("fly(1, 1)", x.fly(1, 1), 4);
        due("count(11)", x.count(11), 2);
        due("undo()", x.undo(), 1);
        due("undo()", x.undo(), 0);
        due("count(0)", x.count(0), 3);
        due("undo(), the oldest were dropped", x.undo(), NONE);
        due("count(0)", x.count(0), 3);
        Map<String, Integer> was = state(x);
        x.set(0, 5);
        x.set(1, 3);
        performed(x, "read 2;read 2;beat 2;wind 3 9");
        x.move(1, 3);
        x.undo();
        x.undo();
        x.undo();
        x.undo();
        same("the state", state(x), was);
    }

    private static void keep() {
        KiteRegisters x = begin("15 keep");
        due("keep()", x.keep(), 0);
        x.fly(0, 1);
        x.fly(1, 2);
        due("keep()", x.keep(), 2);
        due("count(11)", x.count(11), 2);
        x.fly(1, 3);
        x.beat(5);
        due("restore()", x.restore(), 2);
        due("count(0)", x.count(0), 2);
        due("count(10)", x.count(10), 0);
        due("keep(), not undone", x.keep(), 2);
        x.undo();
        x.undo();
        due("count(0)", x.count(0), 3);
        due("restore()", x.restore(), 2);
    }

    private static void restore() {
        KiteRegisters x = begin("16 restore");
        due("restore()", x.restore(), NONE);
        due("count(11)", x.count(11), 0);
        x.fly(0, 1);
        due("keep()", x.keep(), 1);
        x.fly(0, 2);
        due("restore()", x.restore(), 1);
        due("count(11)", x.count(11), 3);
        due("restore(), it stays", x.restore(), 1);
        due("count(11)", x.count(11), 4);
        due("undo()", x.undo(), 3);
        due("undo()", x.undo(), 2);
        due("count(0)", x.count(0), 2);
        x.read(0);
        due("restore()", x.restore(), 1);
        due("kite(0, 2)", x.kite(0, 2), 0);
        x.read(0);
        due("restore(), as kept", x.restore(), 1);
        due("kite(0, 2)", x.kite(0, 2), 0);
    }

    private static void restoreBringsBackAll() {
        KiteRegisters x = begin("16 restore brings back all");
        x.set(0, 5);
        x.set(1, 2);
        performed(x, "fly 0 5;fly 0 6;read 0;read 0;write 1 -7;wind 0 9;wind 7 1;beat 7");
        x.write(1, 8);
        Map<String, Integer> was = state(x);
        x.keep();
        x.set(0, 80);
        x.set(1, 9);
        performed(x, "fly 3 1;read 0;read 1;wind 7 5;wind 3 3;beat 11;fly 2 2;read 3");
        x.set(0, 5);
        x.read(0);
        x.read(0);
        x.takeDown(1);
        enter(x, "beat");
        x.restore();
        same("the state", state(x), was);
        due("count(12)", x.count(12), 4);
        due("count(11)", x.count(11), 4);
    }

    // ---- what is told

    private static void kite() {
        KiteRegisters x = begin("17 kite");
        x.fly(2, -4);
        x.fly(2, 5);
        x.fly(2, 6);
        x.fly(1, 7);
        x.read(0);
        // On string 2: kite 0 at 3, kite 2 at 2, kite 1 at 1.
        int[][] want = {{-4, 2, 3, 1, 1, 0, 0, NONE, 2}, {5, 2, 1, 0, 0, 0, 2, 2, NONE},
            {6, 2, 2, 0, 0, 0, 1, 0, 1}, {7, 1, 0, 0, 0, 0, 0, NONE, NONE}};
        for (int k = 0; k < 4; k++) {
            for (int w = 0; w <= 8; w++) {
                due("kite(" + k + ", " + w + ")", x.kite(k, w), want[k][w]);
            }
        }
        due("kite(0, 9)", x.kite(0, 9), BAD_VALUE);
        due("kite(0, -1)", x.kite(0, -1), BAD_VALUE);
        due("kite(4, 0)", x.kite(4, 0), UNKNOWN);
        due("kite(4, 9)", x.kite(4, 9), UNKNOWN);
        due("kite(-1, 0)", x.kite(-1, 0), UNKNOWN);
        due("kite(12, 0)", x.kite(12, 0), UNKNOWN);
        due("kite(0, 4), told without reading", x.kite(0, 4), 1);
        due("kite(0, 2), told without reading", x.kite(0, 2), 3);
    }

    private static void string() {
        KiteRegisters x = begin("18 string");
        x.fly(2, -999);
        x.fly(2, -999);
        x.fly(2, 8);
        x.fly(1, 7);
        x.read(0);
        int[] want = {3, 9, 0, 1, -1990, 0};
        int[] empty = {0, 0, NONE, NONE, 0, 0};
        for (int w = 0; w <= 5; w++) {
            due("string(2, " + w + ")", x.string(2, w), want[w]);
            due("string(0, " + w + ")", x.string(0, w), empty[w]);
        }
        due("string(1, 2)", x.string(1, 2), 3);
        due("string(1, 3)", x.string(1, 3), 3);
        due("string(0, 6)", x.string(0, 6), BAD_VALUE);
        due("string(0, -1)", x.string(0, -1), BAD_VALUE);
        due("string(4, 0)", x.string(4, 0), UNKNOWN);
        due("string(-1, 9)", x.string(-1, 9), UNKNOWN);
        x.set(0, 5);
        x.read(0);
        x.read(3);
        x.read(3);
        due("string(2, 5)", x.string(2, 5), 1);
        due("string(1, 5)", x.string(1, 5), 1);
        due("string(3, 5)", x.string(3, 5), 0);
        due("string(3, 2)", x.string(3, 2), 0);
    }

    private static void drawn() {
        KiteRegisters x = begin("19 drawn");
        x.fly(3, 1);
        x.fly(0, 2);
        x.fly(3, 3);
        x.fly(3, 4);
        x.read(0);
        // The weights of kites 0, 2 and 3 on string 3: 4, 2, 3.
        int[] want = {0, 0, 0, 0, 2, 2, 3, 3, 3};
        for (int p = 0; p < 9; p++) {
            due("drawn(3, " + p + ")", x.drawn(3, p), want[p]);
        }
        due("drawn(3, 9)", x.drawn(3, 9), BAD_VALUE);
        due("drawn(3, -1)", x.drawn(3, -1), BAD_VALUE);
        due("drawn(3, MAX)", x.drawn(3, Integer.MAX_VALUE), BAD_VALUE);
        due("drawn(0, 0)", x.drawn(0, 0), 1);
        due("drawn(0, 1)", x.drawn(0, 1), BAD_VALUE);
        due("drawn(1, 0), no kites", x.drawn(1, 0), BAD_VALUE);
        due("drawn(4, 0)", x.drawn(4, 0), UNKNOWN);
        due("drawn(-1, -1)", x.drawn(-1, -1), UNKNOWN);
    }

    private static void share() {
        KiteRegisters x = begin("20 share");
        x.fly(1, 1);
        due("share(0)", x.share(0), 1000);
        x.fly(1, 2);
        due("share(0)", x.share(0), 333);
        due("share(1)", x.share(1), 666);
        x.fly(0, 2);
        due("share(2)", x.share(2), 1000);
        due("share(3)", x.share(3), UNKNOWN);
        due("share(-1)", x.share(-1), UNKNOWN);
        due("share(12)", x.share(12), UNKNOWN);
    }

    private static void windOf() {
        KiteRegisters x = begin("21 windOf");
        x.wind(3, 8);
        due("windOf(3)", x.windOf(3), 8);
        due("windOf(7)", x.windOf(7), 2);
        due("windOf(8)", x.windOf(8), UNKNOWN);
        due("windOf(-1)", x.windOf(-1), UNKNOWN);
        due("count(2)", x.count(2), 2);
        x.beat(3);
        due("count(2)", x.count(2), 8);
        x.beat(1);
        due("count(2)", x.count(2), 2);
    }

    private static void ifRead() {
        KiteRegisters x = begin("22 ifRead");
        x.fly(3, 1);
        x.fly(3, 2);
        x.fly(3, 3);
        x.fly(3, 4);
        x.fly(0, 5);
        // To 3, which is taken: 4, past the kites at 1, 2 and 3.
        due("ifRead(0, 0)", x.ifRead(0, 0), 3);
        due("ifRead(0, 1)", x.ifRead(0, 1), 4);
        due("ifRead(0, 2)", x.ifRead(0, 2), 0);
        due("ifRead(0, 3)", x.ifRead(0, 3), 3);
        due("ifRead(1, 1)", x.ifRead(1, 1), 4);
        due("ifRead(1, 3)", x.ifRead(1, 3), 2);
        due("ifRead(3, 1)", x.ifRead(3, 1), 6);
        due("ifRead(3, 3)", x.ifRead(3, 3), 0);
        x.set(0, 5);
        due("ifRead(2, 1), at the cut", x.ifRead(2, 1), 5);
        due("ifRead(2, 2), at the cut", x.ifRead(2, 2), 0);
        due("ifRead(3, 0)", x.ifRead(3, 0), 0);
        due("ifRead(3, 1)", x.ifRead(3, 1), 1);
        due("ifRead(3, 2)", x.ifRead(3, 2), 1);
        x.set(1, 0);
        x.read(2);
        x.wind(0, 9);
        due("ifRead(1, 3), cut", x.ifRead(1, 3), 0);
        due("ifRead(4, 0), cut to a string without kites", x.ifRead(4, 0), 1);
        due("ifRead(4, 1), cut to a string without kites", x.ifRead(4, 1), 0);
        due("ifRead(1, 4)", x.ifRead(1, 4), BAD_VALUE);
        due("ifRead(1, -1)", x.ifRead(1, -1), BAD_VALUE);
        due("ifRead(5, 0)", x.ifRead(5, 0), UNKNOWN);
        due("ifRead(5, 9)", x.ifRead(5, 9), UNKNOWN);
        due("ifRead(-1, 0)", x.ifRead(-1, 0), UNKNOWN);
        due("count(3)", x.count(3), 1);
        due("kite(1, 2)", x.kite(1, 2), 1);
    }

    private static void readsToCut() {
        KiteRegisters x = begin("23 readsToCut");
        x.fly(0, 1);
        // 3, 6, .. 30, 33
        due("readsToCut(0)", x.readsToCut(0), 11);
        x.wind(0, 0);
        x.set(0, 80);
        due("readsToCut(0), the slowest", x.readsToCut(0), 81);
        x.fly(0, 2);
        due("readsToCut(0), one is passed", x.readsToCut(0), 80);
        x.wind(0, 9);
        due("readsToCut(0)", x.readsToCut(0), 9);
        x.read(0);
        x.set(0, 5);
        due("readsToCut(0), above the cut", x.readsToCut(0), 1);
        due("readsToCut(2)", x.readsToCut(2), UNKNOWN);
        due("readsToCut(-1)", x.readsToCut(-1), UNKNOWN);
        due("readsToCut(12)", x.readsToCut(12), UNKNOWN);
        due("count(3)", x.count(3), 1);
        // Kites on other strings are in nobody's way.
        x.fly(1, 3);
        x.wind(0, 0);
        due("readsToCut(2)", x.readsToCut(2), 6);
    }

    private static void downIn() {
        KiteRegisters x = begin("24 downIn");
        x.fly(0, 1);
        x.wind(0, 9);
        x.read(0);
        due("downIn(0, 10)", x.downIn(0, 10), 0);
        due("downIn(0, 99)", x.downIn(0, 99), 0);
        due("downIn(0, 9), fresh at first", x.downIn(0, 9), 2);
        due("downIn(0, 0), fresh at first", x.downIn(0, 0), 11);
        x.beat(1);
        due("downIn(0, 0)", x.downIn(0, 0), 10);
        x.set(1, 4);
        due("downIn(0, 6)", x.downIn(0, 6), 1);
        due("downIn(0, 5)", x.downIn(0, 5), 2);
        due("downIn(0, 0)", x.downIn(0, 0), 3);
        x.set(1, 0);
        due("downIn(0, 9), nothing sinks", x.downIn(0, 9), NONE);
        x.set(1, 9);
        x.fly(0, 2);
        due("downIn(0, 1)", x.downIn(0, 1), 1);
        due("downIn(0, 0), another is there", x.downIn(0, 0), NONE);
        due("downIn(0, -1)", x.downIn(0, -1), BAD_VALUE);
        due("downIn(0, 100)", x.downIn(0, 100), BAD_VALUE);
        due("downIn(2, 0)", x.downIn(2, 0), UNKNOWN);
        due("downIn(2, 100)", x.downIn(2, 100), UNKNOWN);
        due("downIn(-1, 0)", x.downIn(-1, 0), UNKNOWN);
        due("count(10)", x.count(10), 1);
        due("kite(0, 2)", x.kite(0, 2), 10);
        // A fresh kite below holds the one above for one beat.
        x.set(1, 1);
        x.takeDown(1);
        x.beat(9);
        due("kite(0, 2)", x.kite(0, 2), 1);
        x.fly(0, 3);
        x.wind(2, 1);
        due("read(1)", x.read(1), 3);
        due("kite(1, 2)", x.kite(1, 2), 2);
        x.write(0, 9);
        due("downIn(0, 0)", x.downIn(0, 0), 2);
        due("downIn(1, 1)", x.downIn(1, 1), 2);
        due("downIn(1, 0)", x.downIn(1, 0), NONE);
    }

    private static void safeWind() {
        KiteRegisters x = begin("25 safeWind");
        due("safeWind(), no kites", x.safeWind(), 9);
        x.fly(0, 1);
        due("safeWind()", x.safeWind(), 9);
        x.set(0, 9);
        due("safeWind(), to the cut", x.safeWind(), 8);
        x.fly(1, 2);
        x.read(1);
        // From 3 to 9 by the wind 5.
        due("safeWind()", x.safeWind(), 5);
        x.read(1);
        x.read(1);
        due("safeWind(), none", x.safeWind(), NONE);
        x.takeDown(1);
        due("safeWind()", x.safeWind(), 8);
        x.set(0, 80);
        x.fly(0, 3);
        x.wind(0, 6);
        x.read(1);
        due("kite(1, 2)", x.kite(1, 2), 8);
        x.set(0, 9);
        x.wind(0, 0);
        due("safeWind(), kite 1", x.safeWind(), 0);
        x.set(0, 8);
        due("safeWind(), kite 1", x.safeWind(), NONE);
        x = begin("25 safeWind, put higher");
        x.set(0, 5);
        x.fly(0, 1);
        x.fly(0, 2);
        x.fly(0, 3);
        x.fly(0, 4);
        x.fly(0, 5);
        // Kite 4 at 4 may rise by 1; kite 0 would land at 5 in a wind up to 4.
        due("safeWind()", x.safeWind(), 0);
        x.fly(0, 6);
        due("safeWind(), the cut is taken", x.safeWind(), NONE);
        x.takeDown(4);
        x.takeDown(5);
        // Heights 0 to 3: kite 3 rises to 5 by the wind 1.
        due("safeWind()", x.safeWind(), 1);
    }

    private static void calmest() {
        KiteRegisters x = begin("26 calmest");
        due("calmest(), no kites", x.calmest(), 0);
        x.fly(0, 1);
        due("calmest()", x.calmest(), 1);
        x.fly(1, 1);
        x.fly(2, 1);
        x.fly(3, 1);
        due("calmest(), all alike", x.calmest(), 0);
        x.fly(0, 2);
        x.fly(1, 2);
        x.fly(2, 2);
        due("calmest(), lands the lowest", x.calmest(), 3);
        x.fly(3, 2);
        x.read(6);
        due("calmest(), lands the lowest", x.calmest(), 2);
        x.read(7);
        // On 2 and 3 a kite would land at 1; their weights are alike.
        due("calmest()", x.calmest(), 2);
        x.read(6);
        due("calmest(), the fewest weights", x.calmest(), 3);
        x.read(1);
        x.read(1);
        x.read(1);
        x.read(5);
        // Nothing at 0 on string 1, though it has the most weights.
        due("calmest()", x.calmest(), 1);
        x.fly(0, 1);
        x.fly(0, 1);
        x.fly(1, 1);
        x.fly(1, 1);
        due("count(0), full", x.count(0), 12);
        due("calmest(), full", x.calmest(), 3);
        x = begin("26 calmest, weights");
        for (int s = 0; s < 4; s++) {
            x.fly(s, s);
            x.wind(0, 4 - s);
            x.read(s);
        }
        due("calmest(), nothing at 0", x.calmest(), 3);
        x.wind(0, 0);
        x.fly(3, 4);
        due("calmest(), 2 by its weights", x.calmest(), 2);
        x.set(0, 5);
        x.fly(2, 5);
        x.fly(2, 6);
        x.fly(3, 7);
        // On 0 is a kite at 5, on 1 at 4, on 2 at 0, 1 and 3, on 3 at 0, 1 and 2.
        due("calmest(), 1 by its weights", x.calmest(), 1);
    }

    private static void count() {
        KiteRegisters x = begin("27 count");
        x.set(0, 6);
        x.set(1, 2);
        x.fly(0, 1);
        x.fly(0, 1);
        x.fly(3, 1);
        x.wind(2, 4);
        x.beat(10);
        x.read(0);
        x.read(0);
        x.write(2, 2);
        x.read(1);
        enter(x, "beat 1;");
        // Kite 0: to 5, then cut off to string 1 at 0; kite 1 from 1 to 6; kite 2 at 0.
        int[] want = {3, 2, 4, 3, 1, 3, 6, 9, 6, 2, 10, 4, 7};
        for (int w = 0; w < want.length; w++) {
            due("count(" + w + ")", x.count(w), want[w]);
        }
        due("count(13)", x.count(13), BAD_VALUE);
        due("count(-1)", x.count(-1), BAD_VALUE);
        due("count(MIN)", x.count(Integer.MIN_VALUE), BAD_VALUE);
        x.takeDown(1);
        due("count(6)", x.count(6), 0);
        x.read(0);
        due("count(6)", x.count(6), 5);
        x.undo();
        due("count(3)", x.count(3), 3);
        int cuts = 0;
        int weights = 0;
        for (int s = 0; s < 4; s++) {
            cuts += x.string(s, 5);
            weights += x.string(s, 1);
        }
        due("count(4) is the sum of the strings'", x.count(4), cuts);
        due("count(7) is the sum of the strings'", x.count(7), weights);
    }

    // ---- history, of all acts

    private static void actsAreRecorded() {
        KiteRegisters x = begin("history");
        for (int act = 0; act < 10; act++) {
            x = new KiteRegisters();
            x.fly(0, 1);
            x.keep();
            x.fly(1, 2);
            enter(x, "beat 1;fly 0 3");
            Map<String, Integer> was = state(x);
            act(x, act);
            due("count(11) behind act " + act, x.count(11), 3);
            due("undo() of act " + act, x.undo(), 2);
            same("the state before act " + act, state(x), was);
        }
    }

    private static void act(KiteRegisters x, int act) {
        int answer;
        switch (act) {
            case 0: answer = x.fly(3, 3); break;
            case 1: answer = x.takeDown(0); break;
            case 2: answer = x.read(0); break;
            case 3: answer = x.write(0, 7); break;
            case 4: answer = x.move(0, 3); break;
            case 5: answer = x.beat(3); break;
            case 6: answer = x.wind(3, 3); break;
            case 7: answer = x.set(1, 3); break;
            case 8: answer = x.perform(); break;
            default: answer = x.restore(); break;
        }
        if (answer <= UNKNOWN) {
            due("act " + act, answer, 0);
        }
    }

    private static KiteRegisters twelve() {
        KiteRegisters x = begin("errors change nothing");
        for (int k = 0; k < 12; k++) {
            x.fly(k % 3, k);
        }
        x.read(0);
        x.takeDown(5);
        x.undo();
        enter(x, "beat 1;beat 0");
        return x;
    }

    private static void wrongCallsChangeNothing() {
        KiteRegisters x = twelve();
        x.fly(0, 1);
        x.fly(4, 1);
        x.fly(0, 1000);
        x.takeDown(12);
        x.read(-1);
        x.write(12, 0);
        x.write(0, 1000);
        x.move(0, 4);
        x.move(12, 0);
        x.move(0, 0);
        x.beat(0);
        x.beat(101);
        x.wind(8, 1);
        x.wind(0, 10);
        x.wind(0, 2);
        x.set(2, 1);
        x.set(0, 4);
        x.set(0, 30);
        x.set(1, 1);
        x.set(1, 10);
        x.perform();
        x.restore();
        same("all", everything(x), everything(twelve()));
    }
}
