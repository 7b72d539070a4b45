import java.util.HashSet;
import java.util.Set;

/** Boundaries of promises 1 to 6, and of what the document says ahead of them of kites, landing and reading. */
final class KiteBoundaries extends Boundaries {

    static void all() {
        newObject();
        flyLands();
        flyString();
        flyNumber();
        flyNumbersKites();
        flyReturns();
        takeDown();
        takeDownForGood();
        landing();
        noTwoAtOneHeight();
        reading();
        readingPassesOthers();
        windOfNow();
        cutAtFirst();
        cutLeastAndMost();
        cutByLanding();
        cutToTheNextString();
        cutLandsAtNought();
        cutOnce();
        readReturns();
        freshUntilTheNextBeat();
        writeNumber();
        writeLeavesTheHeight();
        writeReturns();
        moveLands();
        moveString();
        moveReturns();
    }

    private static void newObject() {
        sentence("1", "Creates strings without kites, at the beat 0.");
        KiteRegisters x = new KiteRegisters();
        due("count(0)", x.count(0), 0);
        due("count(1)", x.count(1), 0);
        for (int s = 0; s < 4; s++) {
            due("string(" + s + ", 0)", x.string(s, 0), 0);
            due("string(" + s + ", 2)", x.string(s, 2), NONE);
        }
        for (int k = 0; k < 12; k++) {
            due("kite(" + k + ", 0)", x.kite(k, 0), UNKNOWN);
        }
        due("fly(3, 1)", x.fly(3, 1), 0);
        due("beat(1)", x.beat(1), 1);
        due("count(0), one kite", x.count(0), 1);
        due("count(1), one beat", x.count(1), 1);
        due("count(0) of another object", new KiteRegisters().count(0), 0);
        due("count(1) of another object", new KiteRegisters().count(1), 0);
    }

    // ---- fly

    private static void flyLands() {
        sentence("2", "Lets a kite fly on a string: it lands at the height 0, and is not fresh. This is an act.");
        for (int below = 0; below <= 11; below++) {
            int kites = below;
            KiteRegisters x = act("fly(2, 7) above " + below, () -> stack(2, kites), y -> y.fly(2, 7), below);
            due("its height above " + below, x.kite(below, 2), below);
            due("its string", x.kite(below, 1), 2);
            due("whether it is fresh", x.kite(below, 3), 0);
        }
        KiteRegisters x = act("fly(2, 7), 0 is free, 1 is not", () -> without(stack(2, 2), 0), y -> y.fly(2, 7), 0);
        due("kite(0, 2), 0 was free", x.kite(0, 2), 0);
        x = act("fly(2, 7), 0 and 2 are taken", () -> without(stack(2, 3), 1), y -> y.fly(2, 7), 1);
        due("kite(1, 2), 0 and 2 were taken", x.kite(1, 2), 1);
        // Kites that had the same number earlier leave nothing to it.
        x = empty();
        x.fly(0, 1);
        x.fly(0, 2);
        x.write(1, 3);
        x.takeDown(1);
        due("fly(0, 4)", x.fly(0, 4), 1);
        due("kite(1, 3), as it flies", x.kite(1, 3), 0);
        x.takeDown(0);
        x.beat(1);
        due("kite(1, 2), not fresh, so it sank", x.kite(1, 2), 0);
    }

    private static void flyString() {
        sentence("2", "`string`: 0 to 3");
        unchangedEach("fly(%d, 5)", Bench::busy, (x, string) -> x.fly(string, 5), UNKNOWN, MIN, -2, -1, 4, 5, MAX);
        for (int string = 0; string <= 3; string++) {
            int s = string;
            KiteRegisters x = act("fly(" + s + ", 5)", Bench::busy, y -> y.fly(s, 5), 5);
            due("kite(5, 1)", x.kite(5, 1), s);
            due("string(" + s + ", 0)", x.string(s, 0), busy().string(s, 0) + 1);
        }
    }

    private static void flyNumber() {
        sentence("2 5", "A kite carries a number (-999 to 999),");
        sentence("2", "`number`: -999 to 999");
        unchangedEach("fly(3, %d)", Bench::busy, (x, number) -> x.fly(3, number),
                BAD_VALUE, MIN, -1001, -1000, 1000, 1001, MAX);
        for (int number : new int[] {-999, -998, -1, 0, 1, 998, 999}) {
            KiteRegisters x = act("fly(3, " + number + ")", Bench::busy, y -> y.fly(3, number), 5);
            due("kite(5, 0)", x.kite(5, 0), number);
            due("string(3, 4)", x.string(3, 4), number);
            due("takeDown(5)", x.takeDown(5), number);
        }
    }

    private static void flyNumbersKites() {
        sentence("2", "There are 4 strings, 0 to 3, and at most 12 kites; a new kite gets the lowest number of 0 to 11 "
                + "that no kite has.");
        for (int gone = 0; gone <= 11; gone++) {
            int k = gone;
            KiteRegisters x = act("fly(1, 5) without " + k, () -> without(full(), k), y -> y.fly(1, 5), k);
            due("kite(" + k + ", 0)", x.kite(k, 0), 5);
            due("fly(1, 6), the 13th", x.fly(1, 6), FULL);
        }
        KiteRegisters x = without(without(without(full(), 11), 0), 6);
        due("fly, 0, 6 and 11 are free", x.fly(0, 1), 0);
        due("fly, 6 and 11 are free", x.fly(0, 1), 6);
        due("fly, 11 is free", x.fly(0, 1), 11);
        due("fly, none is free", x.fly(0, 1), FULL);
        due("count(0)", x.count(0), 12);
    }

    private static void flyReturns() {
        sentence("2", "Returns its number as a kite; UNKNOWN; BAD_VALUE; FULL if there are 12.");
        act("fly(0, 1), the 1st", Bench::empty, x -> x.fly(0, 1), 0);
        act("fly(0, 1), the 11th", () -> stack(0, 10), x -> x.fly(0, 1), 10);
        act("fly(0, 1), the 12th", () -> stack(0, 11), x -> x.fly(0, 1), 11);
        unchanged("fly(0, 1), the 13th", () -> stack(0, 12), x -> x.fly(0, 1), FULL);
        unchanged("fly(3, 1), the 13th, its string is empty", () -> stack(0, 12), x -> x.fly(3, 1), FULL);
        order("2");
        unchanged("fly(4, 1000) with 12", Bench::full, x -> x.fly(4, 1000), UNKNOWN);
        unchanged("fly(-1, -1000) with 4", Bench::busy, x -> x.fly(-1, -1000), UNKNOWN);
        unchanged("fly(4, 1) with 12", Bench::full, x -> x.fly(4, 1), UNKNOWN);
        unchanged("fly(3, 1000) with 12", Bench::full, x -> x.fly(3, 1000), BAD_VALUE);
        unchanged("fly(0, -1000) with 12", Bench::full, x -> x.fly(0, -1000), BAD_VALUE);
    }

    // ---- takeDown

    private static void takeDown() {
        sentence("3", "`kite`: a kite");
        noSuchKite("takeDown", KiteRegisters::takeDown);
        sentence("3", "Returns the number that it carried; UNKNOWN.");
        act("takeDown(0)", Bench::full, x -> x.takeDown(0), 0);
        act("takeDown(11)", Bench::full, x -> x.takeDown(11), 110);
        act("takeDown(1), written", Bench::busy, x -> x.takeDown(1), -99);
        for (int number : new int[] {-999, 999}) {
            KiteRegisters x = empty();
            x.fly(0, number);
            due("takeDown(0)", x.takeDown(0), number);
            due("count(0), the last one", x.count(0), 0);
            due("string(0, 2), the last one", x.string(0, 2), NONE);
        }
    }

    private static void takeDownForGood() {
        sentence("3", "Takes a kite down for good. This is an act.");
        KiteRegisters x = act("takeDown(2)", Bench::busy, y -> y.takeDown(2), 33);
        unchanged("takeDown(2), again", () -> without(busy(), 2), y -> y.takeDown(2), UNKNOWN);
        due("kite(2, 0)", x.kite(2, 0), UNKNOWN);
        due("kite(1, 8), nothing is below it then", x.kite(1, 8), NONE);
        due("string(0, 0)", x.string(0, 0), 2);
        x.beat(2);
        due("kite(2, 0), two beats later", x.kite(2, 0), UNKNOWN);
        due("fly(3, 1)", x.fly(3, 1), 2);
        due("kite(2, 4), another kite of that number", x.kite(2, 4), 0);
        due("kite(2, 5), another kite of that number", x.kite(2, 5), 0);
        due("count(3), as before", x.count(3), 5);
        due("count(4), as before", x.count(4), 1);
        due("string(3, 5), as before", x.string(3, 5), 1);
    }

    // ---- landing

    private static void landing() {
        sentence("2 4 6", "A kite lands on a string at a height: if that is taken, it is put 1 higher, and so on, "
                + "until the height is free.");
        // By reading with the wind 0, kite 0 is to land at 1, where the others stand one above the other.
        for (int kites = 1; kites <= 12; kites++) {
            KiteRegisters x = stack(3, kites);
            x.wind(0, 0);
            x.read(0);
            due("kite(0, 2), read among " + kites, x.kite(0, 2), kites);
        }
        // The heights 1 and 3 are taken: by reading kite 0 lands at 2, then at 4.
        KiteRegisters x = stack(3, 4);
        x.takeDown(2);
        x.wind(0, 0);
        x.read(0);
        due("kite(0, 2), between two", x.kite(0, 2), 2);
        x.read(0);
        due("kite(0, 2), above both", x.kite(0, 2), 4);
        // One below and one above the height do not matter.
        x = stack(3, 3);
        x.fly(0, 1);
        x.takeDown(1);
        lift(x, 3, 1);
        due("move(3, 3), 0 and 2 are taken", x.move(3, 3), 1);
        // A kite on another string does not matter.
        x = stack(3, 1);
        x.fly(2, 1);
        due("kite(1, 2)", x.kite(1, 2), 0);
    }

    private static void noTwoAtOneHeight() {
        sentence("2 4 6 7", "No two kites of one string are at the same height.");
        KiteRegisters x = full();
        distinct("as they flew", x);
        for (int k = 0; k < 12; k++) {
            x.move(k, 2);
        }
        distinct("all moved to one string", x);
        x.wind(0, 0);
        for (int k = 0; k < 12; k++) {
            x.read(k);
        }
        distinct("all read", x);
        x.set(1, 9);
        x.beat(2);
        distinct("all sunk", x);
        x.set(0, 5);
        for (int k = 0; k < 12; k++) {
            x.read(k);
        }
        distinct("read, some of them cut", x);
        x.takeDown(7);
        x.fly(3, 1);
        x.beat(1);
        distinct("another one flew", x);
    }

    private static void distinct(String when, KiteRegisters x) {
        Set<String> places = new HashSet<>();
        for (int k = 0; k < 12; k++) {
            String place = x.kite(k, 2) + " on " + x.kite(k, 1);
            if (!places.add(place)) {
                fail(when + ": two kites are at " + place);
            }
        }
    }

    // ---- read

    private static void reading() {
        sentence("4", "Reads a kite. This is an act.");
        KiteRegisters x = act("read(3)", Bench::busy, y -> y.read(3), 44);
        due("kite(3, 4)", x.kite(3, 4), 1);
        due("count(3)", x.count(3), 6);
        sentence("4", "Reading a kite tells its number, and lets it rise: it leaves its string, and lands on it again "
                + "at its height and the wind of now and 1.");
        for (int wind = 0; wind <= 9; wind++) {
            x = empty();
            x.fly(1, 5);
            x.wind(0, wind);
            due("read(0), wind " + wind, x.read(0), 5);
            due("kite(0, 2), wind " + wind, x.kite(0, 2), wind + 1);
            due("kite(0, 1), wind " + wind, x.kite(0, 1), 1);
            x.read(0);
            due("kite(0, 2), wind " + wind + ", twice", x.kite(0, 2), 2 * wind + 2);
        }
    }

    private static void readingPassesOthers() {
        sentence("4", "it leaves its string, and lands on it again");
        // Kite 0 from 0 to 3: nothing else is moved by it, below, at or above where it lands.
        KiteRegisters x = stack(1, 5);
        x.takeDown(3);
        x.read(0);
        int[] heights = {3, 1, 2, UNKNOWN, 4};
        for (int k = 0; k < 5; k++) {
            due("kite(" + k + ", 2)", x.kite(k, 2), heights[k]);
        }
        // The height that it had is free then.
        due("fly(1, 9)", x.fly(1, 9), 3);
        due("kite(3, 2)", x.kite(3, 2), 0);
    }

    private static void windOfNow() {
        sentence("4 7 27", "The wind of now is that of the beat.");
        KiteRegisters x = empty();
        x.fly(0, 1);
        x.set(0, 80);
        x.wind(6, 4);
        x.wind(7, 0);
        x.wind(0, 6);
        x.beat(6);
        due("count(2) at the beat 6", x.count(2), 4);
        x.read(0);
        due("kite(0, 2), read at the beat 6", x.kite(0, 2), 5);
        x.beat(1);
        due("count(2) at the beat 7", x.count(2), 0);
        x.read(0);
        due("kite(0, 2), read at the beat 7", x.kite(0, 2), 6);
        x.beat(1);
        due("count(2) at the beat 0 again", x.count(2), 6);
        x.read(0);
        due("kite(0, 2), read at the beat 0", x.kite(0, 2), 13);
        x.wind(1, 9);
        due("count(2), another beat's wind is set", x.count(2), 6);
        x.wind(0, 9);
        due("count(2), this beat's wind is set", x.count(2), 9);
    }

    // ---- cuts

    private static final String CUT = "If it is above the cut then (the setting 0; 5 to 80; 30 at first), it is cut off:";
    private static final String CUT_LANDS = "it lands on the next string (3 is followed by 0) at the height 0 "
            + "(once; its cuts become 1 more).";

    /** Kite 0 alone on string 0, with the wind 0. */
    private static KiteRegisters alone(int cut, int height) {
        KiteRegisters x = new KiteRegisters();
        x.fly(0, 7);
        if (cut != 30) {
            x.set(0, cut);
        }
        lift(x, 0, height);
        x.wind(0, 0);
        return x;
    }

    private static void readFrom(int cut, int height, boolean isCut) {
        String name = "read(0) from " + height + ", the cut is at " + cut;
        due("kite(0, 2) ahead of " + name, alone(cut, height).kite(0, 2), height);
        KiteRegisters x = act(name, () -> alone(cut, height), y -> y.read(0), 7);
        due("kite(0, 1) behind " + name, x.kite(0, 1), isCut ? 1 : 0);
        due("kite(0, 2) behind " + name, x.kite(0, 2), isCut ? 0 : height + 1);
        due("kite(0, 5) behind " + name, x.kite(0, 5), isCut ? 1 : 0);
        due("string(0, 5) behind " + name, x.string(0, 5), isCut ? 1 : 0);
        due("string(1, 5) behind " + name, x.string(1, 5), 0);
        due("count(4) behind " + name, x.count(4), isCut ? 1 : 0);
        due("kite(0, 3) behind " + name, x.kite(0, 3), 1);
    }

    private static void cutAtFirst() {
        sentence("4", CUT);
        due("count(8)", empty().count(8), 30);
        readFrom(30, 28, false);
        readFrom(30, 29, false);
        readFrom(30, 30, true);
    }

    private static void cutLeastAndMost() {
        sentence("4", CUT);
        readFrom(5, 3, false);
        readFrom(5, 4, false);
        readFrom(5, 5, true);
        readFrom(6, 5, false);
        readFrom(6, 6, true);
        readFrom(79, 78, false);
        readFrom(79, 79, true);
        readFrom(80, 78, false);
        readFrom(80, 79, false);
        readFrom(80, 80, true);
    }

    private static void cutByLanding() {
        sentence("4", CUT);
        // Kite 1 is at the cut; kite 0 is to land below it, at it, and above it.
        for (int height = 3; height <= 5; height++) {
            KiteRegisters x = empty();
            x.set(0, 6);
            x.fly(2, 1);
            x.fly(2, 2);
            lift(x, 1, 6);
            lift(x, 0, height);
            x.wind(0, 0);
            x.read(0);
            boolean isCut = height == 5;
            due("kite(0, 1), read from " + height, x.kite(0, 1), isCut ? 3 : 2);
            due("kite(0, 2), read from " + height, x.kite(0, 2), isCut ? 0 : height + 1);
            due("kite(0, 5), read from " + height, x.kite(0, 5), isCut ? 1 : 0);
            due("kite(1, 2), not read", x.kite(1, 2), 6);
        }
    }

    private static void cutToTheNextString() {
        sentence("4", CUT_LANDS);
        int[] next = {1, 2, 3, 0};
        for (int s = 0; s < 4; s++) {
            KiteRegisters x = empty();
            x.set(0, 5);
            x.fly(s, 1);
            x.read(0);
            due("kite(0, 1) below the cut", x.kite(0, 1), s);
            x.read(0);
            due("kite(0, 1) behind the cut", x.kite(0, 1), next[s]);
            due("kite(0, 2) behind the cut", x.kite(0, 2), 0);
            due("kite(0, 5) behind the cut", x.kite(0, 5), 1);
            for (int other = 0; other < 4; other++) {
                due("string(" + other + ", 5), cut from " + s, x.string(other, 5), other == s ? 1 : 0);
            }
        }
    }

    private static void cutLandsAtNought() {
        sentence("4", CUT_LANDS);
        // So many kites stand on the next string, one above the other from 0 on.
        for (int kites = 0; kites <= 11; kites++) {
            KiteRegisters x = stack(0, kites);
            x.fly(3, 100);
            x.set(0, 5);
            x.wind(0, 9);
            due("read of kite " + kites, x.read(kites), 100);
            due("its string", x.kite(kites, 1), 0);
            due("its height", x.kite(kites, 2), kites);
            due("its cuts", x.kite(kites, 5), 1);
            due("count(4)", x.count(4), 1);
        }
        // At 1 on the next string stands a kite, at 0 none.
        KiteRegisters x = without(stack(0, 2), 0);
        x.fly(3, 100);
        x.set(0, 5);
        x.wind(0, 9);
        x.read(0);
        due("kite(0, 1), 0 is free", x.kite(0, 1), 0);
        due("kite(0, 2), 0 is free", x.kite(0, 2), 0);
    }

    private static void cutOnce() {
        sentence("4", CUT_LANDS);
        // Where it lands the heights up to the cut, or all but the cut, or one more than these are taken.
        for (int kites = 5; kites <= 7; kites++) {
            KiteRegisters x = stack(0, kites);
            x.fly(3, 100);
            x.set(0, 5);
            x.wind(0, 9);
            x.read(kites);
            due("its string among " + kites, x.kite(kites, 1), 0);
            due("its height among " + kites, x.kite(kites, 2), kites);
            due("its cuts among " + kites, x.kite(kites, 5), 1);
            due("string(3, 5)", x.string(3, 5), 1);
            due("string(0, 5)", x.string(0, 5), 0);
            x.read(kites);
            due("its string, read again", x.kite(kites, 1), 1);
            due("its height, read again", x.kite(kites, 2), 0);
            due("its cuts, read again", x.kite(kites, 5), 2);
            due("string(0, 5), read again", x.string(0, 5), 1);
        }
    }

    private static void readReturns() {
        sentence("4", "`kite`: a kite");
        noSuchKite("read", KiteRegisters::read);
        sentence("4", "Returns the number that it carries; UNKNOWN.");
        act("read(0)", Bench::full, x -> x.read(0), 0);
        act("read(11)", Bench::full, x -> x.read(11), 110);
        act("read(1), written", Bench::busy, x -> x.read(1), -99);
        for (int number : new int[] {-999, 999}) {
            KiteRegisters x = empty();
            x.set(0, 5);
            x.fly(0, number);
            due("read(0)", x.read(0), number);
            due("read(0), cut", x.read(0), number);
            due("kite(0, 5)", x.kite(0, 5), 1);
            due("kite(0, 0)", x.kite(0, 0), number);
        }
    }

    private static void freshUntilTheNextBeat() {
        sentence("4 5", "A kite that is read or written is fresh until the next beat.");
        for (int way = 0; way < 3; way++) {
            KiteRegisters x = empty();
            x.fly(0, 1);
            lift(x, 0, 10);
            x.beat(1);
            due("kite(0, 3) ahead of it", x.kite(0, 3), 0);
            due("count(5) ahead of it", x.count(5), 0);
            int height = 10;
            switch (way) {
                case 0 -> {
                    x.read(0);
                    height = 13;
                }
                case 1 -> x.write(0, 1);
                default -> performed(x, "write 0 2");
            }
            due("kite(0, 3) in the beat", x.kite(0, 3), 1);
            due("count(5) in the beat", x.count(5), 1);
            due("kite(0, 2) in the beat", x.kite(0, 2), height);
            x.beat(1);
            due("kite(0, 3) behind a beat", x.kite(0, 3), 0);
            due("count(5) behind a beat", x.count(5), 0);
            due("kite(0, 2) behind a beat", x.kite(0, 2), height);
            x.beat(1);
            due("kite(0, 2) behind two beats", x.kite(0, 2), height - 1);
        }
    }

    // ---- write

    private static void writeNumber() {
        sentence("5", "`number`: -999 to 999");
        unchangedEach("write(0, %d)", Bench::busy, (x, number) -> x.write(0, number),
                BAD_VALUE, MIN, -1001, -1000, 1000, 1001, MAX);
        for (int number : new int[] {-999, -998, -1, 0, 1, 998, 999}) {
            KiteRegisters x = act("write(0, " + number + ")", Bench::busy, y -> y.write(0, number), 11);
            due("kite(0, 0)", x.kite(0, 0), number);
            due("string(0, 4)", x.string(0, 4), number - 99 + 33);
            due("write(0, 5)", x.write(0, 5), number);
        }
    }

    private static void writeLeavesTheHeight() {
        sentence("5", "Writing a kite gives it another number; it neither rises nor sinks.");
        // At 0, at the cut, and above a cut that was made less.
        int[] heights = {0, 30, 31};
        for (int height : heights) {
            KiteRegisters x = alone(80, height);
            x.set(0, 30);
            x.wind(0, 9);
            x.write(0, 4);
            due("kite(0, 0)", x.kite(0, 0), 4);
            due("kite(0, 1)", x.kite(0, 1), 0);
            due("kite(0, 2)", x.kite(0, 2), height);
            due("kite(0, 5)", x.kite(0, 5), 0);
            due("count(3)", x.count(3), x.kite(0, 4));
        }
        KiteRegisters x = busy();
        x.write(1, 5);
        due("kite(1, 4), not read by it", x.kite(1, 4), 0);
        due("count(3), not read by it", x.count(3), 5);
    }

    private static void writeReturns() {
        sentence("5", "Writes a kite. This is an act.");
        KiteRegisters x = act("write(3, 44), the number that it carries", Bench::busy, y -> y.write(3, 44), 44);
        due("kite(3, 3)", x.kite(3, 3), 1);
        sentence("5", "`kite`: a kite");
        noSuchKite("write", (y, k) -> y.write(k, 9));
        act("write(0, 9)", Bench::full, y -> y.write(0, 9), 0);
        act("write(11, 9)", Bench::full, y -> y.write(11, 9), 110);
        sentence("5", "Returns the number that it carried before; UNKNOWN; BAD_VALUE.");
        x = act("write(2, -999)", Bench::busy, y -> y.write(2, -999), 33);
        due("write(2, 999)", x.write(2, 999), -999);
        due("write(2, 0)", x.write(2, 0), 999);
        order("5");
        unchanged("write(5, 1000)", Bench::busy, y -> y.write(5, 1000), UNKNOWN);
        unchanged("write(-1, -1000)", Bench::full, y -> y.write(-1, -1000), UNKNOWN);
        unchanged("write(12, 1000)", Bench::full, y -> y.write(12, 1000), UNKNOWN);
        unchanged("write(11, 1000)", Bench::full, y -> y.write(11, 1000), BAD_VALUE);
    }

    // ---- move

    private static void moveLands() {
        sentence("6", "Moves a kite to another string: it lands there at its height. This is an act.");
        // On string 1 stand kites at 3 and 4; kite 0 comes from 1 to 5.
        int[] heights = {0, 1, 2, 5, 5, 5, 6};
        for (int height = 0; height <= 6; height++) {
            int from = height;
            Start start = () -> twoOn1(from);
            KiteRegisters x = act("move(0, 1) from " + height, start, y -> y.move(0, 1), heights[height]);
            due("kite(0, 1)", x.kite(0, 1), 1);
            due("kite(0, 2)", x.kite(0, 2), heights[height]);
            due("string(0, 0)", x.string(0, 0), 0);
            due("string(1, 0)", x.string(1, 0), 3);
            due("kite(0, 3), as before", x.kite(0, 3), start.make().kite(0, 3));
        }
        // All twelve kites are one above the other, but for the one that comes.
        for (int k = 0; k <= 11; k++) {
            KiteRegisters x = stack(2, 12);
            due("move to an empty string", x.move(k, 3), k);
            due("move back", x.move(k, 2), k);
        }
        // Nothing is cut by it, though it is put above the cut.
        KiteRegisters x = alone(30, 30);
        x.fly(1, 2);
        lift(x, 1, 30);
        due("move(0, 1) at the cut, which is taken", x.move(0, 1), 31);
        due("count(4)", x.count(4), 0);
        due("kite(0, 1)", x.kite(0, 1), 1);
    }

    private static KiteRegisters twoOn1(int height) {
        KiteRegisters x = new KiteRegisters();
        x.fly(0, 5);
        x.fly(1, 1);
        x.fly(1, 2);
        lift(x, 1, 3);
        lift(x, 2, 4);
        x.beat(1);
        x.set(1, 0);
        lift(x, 0, height);
        due("kite(1, 2)", x.kite(1, 2), 3);
        due("kite(2, 2)", x.kite(2, 2), 4);
        return x;
    }

    private static void moveString() {
        sentence("6", "`string`: 0 to 3");
        unchangedEach("move(0, %d)", Bench::busy, (x, string) -> x.move(0, string), UNKNOWN, MIN, -2, -1, 4, 5, MAX);
        for (int string = 1; string <= 3; string++) {
            int s = string;
            KiteRegisters x = act("move(0, " + s + ")", Bench::busy, y -> y.move(0, s), 10);
            due("kite(0, 1)", x.kite(0, 1), s);
        }
        act("move(3, 0)", Bench::busy, y -> y.move(3, 0), 2);
    }

    private static void moveReturns() {
        sentence("6", "`kite`: a kite");
        noSuchKite("move", (x, k) -> x.move(k, 3));
        sentence("6", "Returns its height then; UNKNOWN (kite or string); NONE if it is there.");
        KiteRegisters x = act("move(0, 1)", Bench::full, y -> y.move(0, 1), 3);
        due("kite(0, 2)", x.kite(0, 2), 3);
        act("move(11, 2)", Bench::full, y -> y.move(11, 2), 3);
        for (int s = 0; s <= 3; s++) {
            int string = s;
            unchanged("move(" + s + ", " + s + ")", Bench::full, y -> y.move(string, string), NONE);
        }
        order("6");
        unchanged("move(12, 4)", Bench::full, y -> y.move(12, 4), UNKNOWN);
        unchanged("move(-1, 0)", Bench::full, y -> y.move(-1, 0), UNKNOWN);
        unchanged("move(5, 3), no such kite", Bench::busy, y -> y.move(5, 3), UNKNOWN);
        unchanged("move(0, 4), no such string", Bench::busy, y -> y.move(0, 4), UNKNOWN);
        // A kite that was taken down was on that string: no NONE, but the error.
        unchanged("move(2, 0), taken down", () -> without(busy(), 2), y -> y.move(2, 0), UNKNOWN);
    }
}
