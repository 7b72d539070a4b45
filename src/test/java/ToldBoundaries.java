/** Boundaries of promises 17 to 27: what is told, and what telling leaves as it was. */
final class ToldBoundaries extends Boundaries {

    static void all() {
        kiteWhat();
        kiteFresh();
        kiteSoFar();
        kiteRank();
        kiteNeighbours();
        kiteReturns();
        stringWhat();
        stringWithoutKites();
        stringHighestAndLowest();
        stringNumbers();
        stringCuts();
        stringReturns();
        weights();
        drawnPoints();
        drawnByNumbers();
        drawnReturns();
        shareRoundedDown();
        shareReturns();
        windOf();
        ifReadWhat();
        ifReadCut();
        ifReadPasses();
        ifReadAsRead();
        readsToCut();
        readsToCutFewestAndMost();
        readsToCutReturns();
        downInHeight();
        downInBeats();
        downInHeld();
        downInMost();
        downInReturns();
        safeWindGreatest();
        safeWindLeast();
        safeWindEachAlone();
        calmestLowest();
        calmestFewestWeights();
        calmestOfThese();
        countWhat();
        countFromNought();
        countGreatestHeight();
        countSums();
    }

    // ---- kite

    private static final String KITE = "`what`: 0 for the number that it carries (told without reading it), 1 for its "
            + "string, 2 for its height, 3 for whether it is fresh (1, otherwise 0), 4 for how often it was read so far, "
            + "5 for how often it was cut so far, 6 for its rank on its string, from above, from 0, 7 for the kite right "
            + "above it (NONE without one), 8 for the kite right below it (NONE without one)";

    private static void kiteWhat() {
        sentence("17", KITE);
        whats("kite of 0", Bench::busy, (x, what) -> x.kite(0, what), 0, 8);
        whats("kite of 11", Bench::full, (x, what) -> x.kite(11, what), 0, 8);
        int[][] want = {{11, 0, 10, 0, 1, 0, 0, NONE, 1}, {-99, 0, 1, 1, 0, 0, 1, 0, 2}, {33, 0, 0, 0, 3, 1, 2, 1, NONE},
            {44, 2, 0, 0, 0, 0, 0, NONE, NONE}, {0, 1, 4, 1, 1, 0, 0, NONE, NONE}};
        KiteRegisters x = busy();
        for (int k = 0; k < 5; k++) {
            for (int what = 0; what <= 8; what++) {
                due("kite(" + k + ", " + what + ")", x.kite(k, what), want[k][what]);
            }
        }
        due("kite(0, 4), it was not read by telling", x.kite(0, 4), 1);
        due("count(3), none was read by telling", x.count(3), 5);
    }

    private static void kiteFresh() {
        sentence("17", "3 for whether it is fresh (1, otherwise 0)");
        KiteRegisters x = empty();
        x.fly(0, 1);
        x.fly(0, 2);
        due("kite(0, 3), it flew", x.kite(0, 3), 0);
        x.read(0);
        due("kite(0, 3), it was read", x.kite(0, 3), 1);
        due("kite(1, 3), another was read", x.kite(1, 3), 0);
        x.move(0, 1);
        x.write(0, 1);
        x.read(0);
        due("kite(0, 3), several times", x.kite(0, 3), 1);
        x.beat(1);
        due("kite(0, 3), a beat passed", x.kite(0, 3), 0);
        x.undo();
        due("kite(0, 3), the beat is undone", x.kite(0, 3), 1);
    }

    private static void kiteSoFar() {
        sentence("17", "4 for how often it was read so far, 5 for how often it was cut so far");
        KiteRegisters x = empty();
        x.set(0, 5);
        x.fly(0, 1);
        int[] cuts = {0, 0, 1, 1, 2, 2, 3};
        for (int reads = 0; reads <= 6; reads++) {
            due("kite(0, 4)", x.kite(0, 4), reads);
            due("kite(0, 5)", x.kite(0, 5), cuts[reads]);
            x.read(0);
        }
        x.write(0, 1);
        x.move(0, 2);
        x.beat(100);
        due("kite(0, 4), not read since", x.kite(0, 4), 7);
        due("kite(0, 5), not cut since", x.kite(0, 5), 3);
        x.restore();
        x.undo();
        due("kite(0, 4), undone", x.kite(0, 4), 7);
    }

    private static void kiteRank() {
        sentence("17", "6 for its rank on its string, from above, from 0");
        for (int kites = 1; kites <= 12; kites++) {
            KiteRegisters x = stack(2, kites);
            for (int k = 0; k < kites; k++) {
                due("kite(" + k + ", 6) of " + kites, x.kite(k, 6), kites - 1 - k);
            }
        }
        // Kites of other strings are above and below nobody.
        KiteRegisters x = full();
        for (int k = 0; k < 12; k++) {
            due("kite(" + k + ", 6)", x.kite(k, 6), 2 - k / 4);
        }
        x.read(0);
        due("kite(0, 6), read", x.kite(0, 6), 0);
        due("kite(8, 6), passed", x.kite(8, 6), 1);
        due("kite(4, 6), passed", x.kite(4, 6), 2);
    }

    private static void kiteNeighbours() {
        sentence("17", "7 for the kite right above it (NONE without one), 8 for the kite right below it "
                + "(NONE without one)");
        for (int kites = 1; kites <= 12; kites++) {
            KiteRegisters x = stack(1, kites);
            for (int k = 0; k < kites; k++) {
                due("kite(" + k + ", 7) of " + kites, x.kite(k, 7), k == kites - 1 ? NONE : k + 1);
                due("kite(" + k + ", 8) of " + kites, x.kite(k, 8), k == 0 ? NONE : k - 1);
            }
        }
        // Right above is the next higher one, how far it may be; kites on other strings are none.
        KiteRegisters x = stack(1, 3);
        x.fly(2, 5);
        lift(x, 0, 25);
        lift(x, 3, 10);
        due("kite(2, 7), 23 higher", x.kite(2, 7), 0);
        due("kite(0, 8), 23 lower", x.kite(0, 8), 2);
        due("kite(0, 7)", x.kite(0, 7), NONE);
        due("kite(1, 8)", x.kite(1, 8), NONE);
        due("kite(3, 7), alone", x.kite(3, 7), NONE);
        due("kite(3, 8), alone", x.kite(3, 8), NONE);
        x.takeDown(2);
        due("kite(1, 7)", x.kite(1, 7), 0);
        due("kite(0, 8)", x.kite(0, 8), 1);
    }

    private static void kiteReturns() {
        sentence("17", "`kite`: a kite");
        noSuchKite("kite(.., 0)", (x, k) -> x.kite(k, 0));
        noSuchKite("kite(.., 8)", (x, k) -> x.kite(k, 8));
        sentence("17", "Returns the number; UNKNOWN; BAD_VALUE.");
        order("17");
        unchanged("kite(5, 9)", Bench::busy, x -> x.kite(5, 9), UNKNOWN);
        unchanged("kite(-1, -1)", Bench::busy, x -> x.kite(-1, -1), UNKNOWN);
        unchanged("kite(12, 9)", Bench::full, x -> x.kite(12, 9), UNKNOWN);
        unchanged("kite(11, 9)", Bench::full, x -> x.kite(11, 9), BAD_VALUE);
        for (int number : new int[] {-999, 999}) {
            KiteRegisters x = empty();
            x.fly(0, number);
            due("kite(0, 0)", x.kite(0, 0), number);
            due("kite(0, 4)", x.kite(0, 4), 0);
        }
    }

    // ---- string

    private static final String STRING = "`what`: 0 for its kites, 1 for their weights together, 2 for the highest kite "
            + "(NONE without one), 3 for the lowest one (NONE without one), 4 for the sum of the numbers that they carry, "
            + "5 for cuts from this string so far";

    private static void stringWhat() {
        sentence("18", STRING);
        whats("string of 0", Bench::busy, (x, what) -> x.string(0, what), 0, 5);
        whats("string of 3, empty", Bench::busy, (x, what) -> x.string(3, what), 0, 5);
        int[][] want = {{3, 14, 0, 2, -55, 0}, {1, 5, 4, 4, 0, 0}, {1, 1, 3, 3, 44, 0}, {0, 0, NONE, NONE, 0, 1}};
        KiteRegisters x = busy();
        for (int s = 0; s < 4; s++) {
            for (int what = 0; what <= 5; what++) {
                due("string(" + s + ", " + what + ")", x.string(s, what), want[s][what]);
            }
        }
    }

    private static void stringWithoutKites() {
        sentence("18", STRING);
        int[] none = {0, 0, NONE, NONE, 0, 0};
        int[] one = {1, 1, 0, 0, -7, 0};
        for (int s = 0; s < 4; s++) {
            int string = s;
            for (int what = 0; what <= 5; what++) {
                int w = what;
                unchanged("string(" + s + ", " + w + ")", Bench::empty, x -> x.string(string, w), none[w]);
                KiteRegisters x = empty();
                x.fly(s, -7);
                due("string(" + s + ", " + w + "), one kite", x.string(s, w), one[w]);
                due("another string of one kite", x.string((s + 1) % 4, w), none[w]);
                x.takeDown(0);
                due("string(" + s + ", " + w + "), none again", x.string(s, w), none[w]);
            }
        }
        due("string(3, 0), all twelve", stack(3, 12).string(3, 0), 12);
        due("string(3, 0), eleven", stack(3, 11).string(3, 0), 11);
    }

    private static void stringHighestAndLowest() {
        sentence("18", STRING);
        for (int kites = 1; kites <= 12; kites++) {
            KiteRegisters x = stack(0, kites);
            due("string(0, 2) of " + kites, x.string(0, 2), kites - 1);
            due("string(0, 3) of " + kites, x.string(0, 3), 0);
            x.read(0);
            due("string(0, 3) of " + kites + ", the lowest read", x.string(0, 3), kites > 1 ? 1 : 0);
        }
        KiteRegisters x = stack(0, 3);
        x.wind(0, 0);
        x.read(0);
        due("string(0, 2), passed by", x.string(0, 2), 0);
        x.read(2);
        due("kite(2, 2), put right above", x.kite(2, 2), 4);
        due("string(0, 2), passed back", x.string(0, 2), 2);
    }

    private static void stringNumbers() {
        sentence("18", STRING);
        for (int number : new int[] {-999, 999}) {
            KiteRegisters x = empty();
            for (int k = 1; k <= 12; k++) {
                x.fly(1, number);
                due("string(1, 4) of " + k, x.string(1, 4), k * number);
            }
            due("string(0, 4)", x.string(0, 4), 0);
        }
        // Sums that are as low as the errors are sums all the same.
        for (int sum = -10006; sum <= -10000; sum++) {
            KiteRegisters x = empty();
            for (int k = 0; k < 11; k++) {
                x.fly(2, -900);
            }
            x.fly(2, sum + 9900);
            due("string(2, 4)", x.string(2, 4), sum);
        }
    }

    private static void stringCuts() {
        sentence("18", "5 for cuts from this string so far");
        KiteRegisters x = empty();
        x.set(0, 5);
        x.wind(0, 9);
        x.fly(2, 1);
        for (int cuts = 1; cuts <= 9; cuts++) {
            x.read(0);
            for (int s = 0; s < 4; s++) {
                // The first cut is from string 2, each later one from the next string.
                due("string(" + s + ", 5) behind " + cuts, x.string(s, 5), (cuts + 3 - (s + 2) % 4) / 4);
            }
        }
    }

    private static void stringReturns() {
        sentence("18", "`string`: 0 to 3");
        for (int string : new int[] {MIN, -2, -1, 4, 5, MAX}) {
            for (int what = 0; what <= 5; what++) {
                int w = what;
                unchanged("string(" + string + ", " + w + ")", Bench::busy, x -> x.string(string, w), UNKNOWN);
            }
        }
        for (int s = 0; s <= 3; s++) {
            int string = s;
            unchanged("string(" + s + ", 0)", Bench::full, x -> x.string(string, 0), 3);
        }
        sentence("18", "Returns the number; UNKNOWN; BAD_VALUE.");
        order("18");
        unchanged("string(4, 6)", Bench::busy, x -> x.string(4, 6), UNKNOWN);
        unchanged("string(-1, -1)", Bench::busy, x -> x.string(-1, -1), UNKNOWN);
        unchanged("string(3, 6)", Bench::busy, x -> x.string(3, 6), BAD_VALUE);
    }

    private static void weights() {
        sentence("18 19 20 26 27", "The weight of a kite is its height and 1.");
        for (int height : new int[] {0, 1, 2, 29, 30}) {
            KiteRegisters x = empty();
            x.fly(0, 5);
            lift(x, 0, height);
            due("string(0, 1) at " + height, x.string(0, 1), height + 1);
            due("count(7) at " + height, x.count(7), height + 1);
            due("drawn(0, " + height + ")", x.drawn(0, height), 0);
            due("drawn(0, " + (height + 1) + ")", x.drawn(0, height + 1), BAD_VALUE);
            x.fly(0, 6);
            due("share(0) at " + height, x.share(0), (height + 1) * 1000 / (height + (height == 0 ? 3 : 2)));
        }
    }

    // ---- drawn, share

    private static final String DRAWN = "A kite is drawn of a string by a point (from 0 up to the weights of all kites on "
            + "it, less 1): the weights are laid one behind the other, by the numbers of kites, and the one in which the "
            + "point lies is drawn.";

    private static void drawnPoints() {
        sentence("19", DRAWN);
        sentence("19", "`point`: 0 up to the weights together, less 1");
        // On string 0 of busy() the weights of kites 0, 1 and 2 are 11, 2 and 1.
        int[] points = {0, 1, 9, 10, 11, 12, 13};
        int[] kites = {0, 0, 0, 0, 1, 1, 2};
        for (int i = 0; i < points.length; i++) {
            int point = points[i];
            unchanged("drawn(0, " + point + ")", Bench::busy, x -> x.drawn(0, point), kites[i]);
        }
        unchangedEach("drawn(0, %d)", Bench::busy, (x, point) -> x.drawn(0, point),
                BAD_VALUE, MIN, -2, -1, 14, 15, 1000, MAX);
        // Twelve kites whose weights are 1 to 12.
        KiteRegisters x = stack(1, 12);
        int begin = 0;
        for (int k = 0; k < 12; k++) {
            due("drawn, the first point of " + k, x.drawn(1, begin), k);
            begin += k + 1;
            due("drawn, the last point of " + k, x.drawn(1, begin - 1), k);
        }
        due("drawn(1, 77)", x.drawn(1, 77), 11);
        due("drawn(1, 78)", x.drawn(1, 78), BAD_VALUE);
        // As one sinks the points grow fewer by one.
        x = stack(1, 1);
        x.read(0);
        x.beat(1);
        for (int last = 3; last >= 0; last--) {
            due("drawn(1, " + last + ")", x.drawn(1, last), 0);
            due("drawn(1, " + (last + 1) + ")", x.drawn(1, last + 1), BAD_VALUE);
            x.beat(1);
        }
        due("drawn(1, 0), it is down", x.drawn(1, 0), 0);
    }

    private static void drawnByNumbers() {
        sentence("19", DRAWN);
        // By numbers, not by heights: kite 0 is the highest, kite 5 the lowest; 1, 3 and 4 are elsewhere.
        KiteRegisters x = empty();
        x.fly(3, 1);
        x.fly(0, 1);
        x.fly(3, 1);
        x.fly(0, 1);
        x.fly(1, 1);
        x.fly(3, 1);
        lift(x, 0, 4);
        x.wind(0, 0);
        x.read(2);
        // The heights of kites 0, 2 and 5 are 4, 3 and 2.
        int[] kites = {0, 0, 0, 0, 0, 2, 2, 2, 2, 5, 5, 5, BAD_VALUE};
        due("kite(2, 2)", x.kite(2, 2), 3);
        for (int point = 0; point < kites.length; point++) {
            due("drawn(3, " + point + ")", x.drawn(3, point), kites[point]);
        }
        x.takeDown(0);
        due("drawn(3, 0), without 0", x.drawn(3, 0), 2);
        x.fly(3, 1);
        due("drawn(3, 0), another 0", x.drawn(3, 0), 0);
        due("drawn(3, 1), another 0", x.drawn(3, 1), 2);
    }

    private static void drawnReturns() {
        sentence("19", "Draws a kite of a string by its weights.");
        sentence("19", "`string`: 0 to 3");
        unchangedEach("drawn(%d, 0)", Bench::full, (x, string) -> x.drawn(string, 0), UNKNOWN, MIN, -2, -1, 4, 5, MAX);
        for (int s = 0; s <= 3; s++) {
            int string = s;
            unchanged("drawn(" + s + ", 0)", Bench::full, x -> x.drawn(string, 0), s);
            unchanged("drawn(" + s + ", 5)", Bench::full, x -> x.drawn(string, 5), 8 + s);
        }
        sentence("19", "Returns the kite; UNKNOWN; BAD_VALUE (also without kites).");
        for (int point : new int[] {-1, 0, 1}) {
            unchanged("drawn(3, " + point + ") without kites", Bench::busy, x -> x.drawn(3, point), BAD_VALUE);
            unchanged("drawn(0, " + point + ") of a new object", Bench::empty, x -> x.drawn(0, point), BAD_VALUE);
        }
        order("19");
        unchanged("drawn(4, -1)", Bench::busy, x -> x.drawn(4, -1), UNKNOWN);
        unchanged("drawn(-1, 1000)", Bench::busy, x -> x.drawn(-1, 1000), UNKNOWN);
    }

    private static void shareRoundedDown() {
        sentence("20", "Tells what share of the weights of its string a kite has, in thousandths, rounded down.");
        due("share(0), alone", stack(0, 1).share(0), 1000);
        KiteRegisters x = stack(0, 2);
        due("share(0), 333.3", x.share(0), 333);
        due("share(1), 666.6", x.share(1), 666);
        x.fly(1, 1);
        due("share(2), alone on its string", x.share(2), 1000);
        due("share(0), as before", x.share(0), 333);
        // Weights 1 and 3, in all 4: without a rest; one less and one more of them have one.
        for (int height = 1; height <= 3; height++) {
            x = stack(0, 2);
            x.takeDown(0);
            lift(x, 1, height);
            x.fly(0, 1);
            int[] lower = {333, 250, 200};
            int[] upper = {666, 750, 800};
            due("share(0) below " + height, x.share(0), lower[height - 1]);
            due("share(1) at " + height, x.share(1), upper[height - 1]);
        }
        // 1 of 78 is 12.8, 12 of 78 is 153.8.
        x = stack(2, 12);
        due("share(0) of twelve", x.share(0), 12);
        due("share(11) of twelve", x.share(11), 153);
        due("share(5) of twelve", x.share(5), 76);
    }

    private static void shareReturns() {
        sentence("20", "`kite`: a kite");
        noSuchKite("share", KiteRegisters::share);
        sentence("20", "Returns the share; UNKNOWN.");
        int[] shares = {785, 142, 71, 1000, 1000};
        for (int k = 0; k < 5; k++) {
            int kite = k;
            unchanged("share(" + k + ")", Bench::busy, x -> x.share(kite), shares[k]);
        }
        // The least share: 1 of as much as eleven kites can weigh, from 81 to 91 each.
        KiteRegisters x = highest();
        x.takeDown(11);
        x.fly(0, 1);
        due("count(6)", x.count(6), 90);
        due("string(0, 1)", x.string(0, 1), 947);
        due("share(11)", x.share(11), 1);
        due("share(10)", x.share(10), 96);
    }

    /** Twelve kites as high as can be, all on string 0: k at 80 + k. */
    static KiteRegisters highest() {
        KiteRegisters x = new KiteRegisters();
        x.set(0, 80);
        x.wind(0, 9);
        for (int k = 0; k < 12; k++) {
            x.fly(1, k);
            for (int i = 0; i < 8; i++) {
                x.read(k);
            }
            x.move(k, 0);
        }
        return x;
    }

    // ---- windOf

    private static void windOf() {
        sentence("21", "Tells the wind of a beat.");
        sentence("21", "`beat`: 0 to 7");
        unchangedEach("windOf(%d)", Bench::busy, (x, beat) -> x.windOf(beat), UNKNOWN, MIN, -2, -1, 8, 9, MAX);
        int[] winds = {9, 3, 2, 2, 2, 2, 2, 2};
        for (int b = 0; b <= 7; b++) {
            int beat = b;
            unchanged("windOf(" + b + ")", Bench::busy, x -> x.windOf(beat), winds[b]);
        }
        sentence("21", "Returns the wind; UNKNOWN.");
        for (int wind : new int[] {0, 1, 8, 9}) {
            KiteRegisters x = empty();
            x.wind(7, wind);
            due("windOf(7)", x.windOf(7), wind);
            due("windOf(6)", x.windOf(6), 2);
            due("windOf(0)", x.windOf(0), 2);
            x.beat(7);
            due("windOf(7), it is now", x.windOf(7), wind);
        }
    }

    // ---- ifRead

    private static final String IF_READ = "`what`: 0 for its string then, 1 for its height then, 2 for whether it would be "
            + "cut (1, otherwise 0), 3 for how many kites of its string it passes by that (those that were above it, and "
            + "are below it then; 0 if it is cut)";

    private static void ifReadWhat() {
        sentence("22", "Tells what reading a kite would do.");
        sentence("22", IF_READ);
        whats("ifRead of 0", Bench::busy, (x, what) -> x.ifRead(0, what), 0, 3);
        whats("ifRead of 11", Bench::full, (x, what) -> x.ifRead(11, what), 0, 3);
        // The wind of now is 3: kite 2 from 0 to 4 past kite 1, kite 0 from 10 to 14, and so on.
        int[][] want = {{0, 14, 0, 0}, {0, 5, 0, 0}, {0, 4, 0, 1}, {2, 4, 0, 0}, {1, 8, 0, 0}};
        KiteRegisters x = busy();
        for (int k = 0; k < 5; k++) {
            for (int what = 0; what <= 3; what++) {
                due("ifRead(" + k + ", " + what + ")", x.ifRead(k, what), want[k][what]);
            }
        }
        due("count(3), none was read", x.count(3), 5);
        sentence("22", "`kite`: a kite");
        noSuchKite("ifRead(.., 0)", (y, k) -> y.ifRead(k, 0));
        noSuchKite("ifRead(.., 3)", (y, k) -> y.ifRead(k, 3));
        sentence("22", "Returns the number; UNKNOWN; BAD_VALUE.");
        order("22");
        unchanged("ifRead(5, 4)", Bench::busy, y -> y.ifRead(5, 4), UNKNOWN);
        unchanged("ifRead(-1, -1)", Bench::busy, y -> y.ifRead(-1, -1), UNKNOWN);
        unchanged("ifRead(12, 4)", Bench::full, y -> y.ifRead(12, 4), UNKNOWN);
        unchanged("ifRead(11, 4)", Bench::full, y -> y.ifRead(11, 4), BAD_VALUE);
    }

    private static void ifReadCut() {
        sentence("22", IF_READ);
        for (int string = 0; string <= 3; string++) {
            for (int height = 28; height <= 31; height++) {
                KiteRegisters x = empty();
                x.set(0, 80);
                x.fly(string, 1);
                lift(x, 0, height);
                x.wind(0, 0);
                x.set(0, 30);
                boolean isCut = height >= 30;
                due("ifRead(0, 0) from " + height, x.ifRead(0, 0), isCut ? (string + 1) % 4 : string);
                due("ifRead(0, 1) from " + height, x.ifRead(0, 1), isCut ? 0 : height + 1);
                due("ifRead(0, 2) from " + height, x.ifRead(0, 2), isCut ? 1 : 0);
                due("ifRead(0, 3) from " + height, x.ifRead(0, 3), 0);
                due("kite(0, 2)", x.kite(0, 2), height);
                due("count(4)", x.count(4), 0);
            }
        }
        // Where it would come down so many are one above the other, and those on its string are not passed.
        for (int kites = 0; kites <= 10; kites++) {
            KiteRegisters x = stack(0, kites);
            x.fly(3, 1);
            x.fly(3, 2);
            x.set(0, 5);
            x.wind(0, 5);
            due("ifRead, its string", x.ifRead(kites, 0), 0);
            due("ifRead, its height above " + kites, x.ifRead(kites, 1), kites);
            due("ifRead, it is cut", x.ifRead(kites, 2), 1);
            due("ifRead, it passes none as it is cut", x.ifRead(kites, 3), 0);
            x.wind(0, 4);
            due("ifRead, it is not cut", x.ifRead(kites, 2), 0);
            due("ifRead, it passes one", x.ifRead(kites, 3), 1);
        }
    }

    private static void ifReadPasses() {
        sentence("22", IF_READ);
        // Kite 0 from 0 on, in winds from 0 to 9, and a kite at 4: passed if it lands above, also by landing on it.
        for (int wind = 0; wind <= 9; wind++) {
            KiteRegisters x = stack(1, 2);
            lift(x, 1, 4);
            x.wind(0, wind);
            due("ifRead(0, 1), wind " + wind, x.ifRead(0, 1), wind == 3 ? 5 : wind + 1);
            due("ifRead(0, 3), wind " + wind, x.ifRead(0, 3), wind < 3 ? 0 : 1);
            due("ifRead(1, 3), the higher one", x.ifRead(1, 3), 0);
        }
        // Twelve, one right above the other: each passes all that are above it, and no more.
        KiteRegisters x = stack(1, 12);
        x.wind(0, 0);
        for (int k = 0; k < 12; k++) {
            due("ifRead(" + k + ", 1)", x.ifRead(k, 1), 12);
            due("ifRead(" + k + ", 3)", x.ifRead(k, 3), 11 - k);
        }
        // Those of other strings are not passed.
        x = full();
        due("ifRead(0, 3)", x.ifRead(0, 3), 2);
        due("ifRead(4, 3)", x.ifRead(4, 3), 1);
        due("ifRead(8, 3)", x.ifRead(8, 3), 0);
    }

    private static void ifReadAsRead() {
        sentence("22", "Tells what reading a kite would do.");
        Start[] starts = {Bench::busy, Bench::full, () -> stack(3, 12), ToldBoundaries::highest, ToldBoundaries::low};
        for (Start start : starts) {
            for (int k = 0; k < 12; k++) {
                KiteRegisters x = start.make();
                if (x.kite(k, 0) == UNKNOWN) {
                    continue;
                }
                int cuts = x.kite(k, 5);
                int rank = x.kite(k, 6);
                int[] told = {x.ifRead(k, 0), x.ifRead(k, 1), x.ifRead(k, 2), x.ifRead(k, 3)};
                x.read(k);
                due("kite(" + k + ", 1), read", x.kite(k, 1), told[0]);
                due("kite(" + k + ", 2), read", x.kite(k, 2), told[1]);
                due("kite(" + k + ", 5), read", x.kite(k, 5), cuts + told[2]);
                due("ranks that " + k + " rose by", told[2] == 1 ? 0 : rank - x.kite(k, 6), told[3]);
            }
        }
    }

    /** Twelve kites about a low cut, on two strings. */
    private static KiteRegisters low() {
        KiteRegisters x = new KiteRegisters();
        for (int k = 0; k < 12; k++) {
            x.fly(k < 7 ? 3 : 0, k);
        }
        x.set(0, 6);
        x.wind(0, 1);
        return x;
    }

    // ---- readsToCut

    private static final String READS = "Tells how many readings of a kite, one right behind the other, it takes until it "
            + "is cut, if no beat passes.";

    private static KiteRegisters ready(int cut, int wind, int height) {
        KiteRegisters x = new KiteRegisters();
        x.set(0, 80);
        x.fly(2, 1);
        lift(x, 0, height);
        x.set(0, cut);
        x.wind(0, wind);
        return x;
    }

    private static void readsToCut() {
        sentence("23", READS);
        // The wind 2: by 3 each time; the reading that brings it above 30 is the one that is told.
        int[] heights = {0, 1, 2, 3, 26, 27, 28, 30, 31, 80};
        int[] reads = {11, 10, 10, 10, 2, 2, 1, 1, 1, 1};
        for (int i = 0; i < heights.length; i++) {
            int height = heights[i];
            due("readsToCut(0) from " + height, ready(30, 2, height).readsToCut(0), reads[i]);
            KiteRegisters x = ready(30, 2, height);
            int counted = 0;
            while (x.kite(0, 5) == 0 && counted < 100) {
                x.read(0);
                counted++;
            }
            due("readings from " + height, counted, reads[i]);
        }
        // Only the wind of now counts, though other beats have others.
        KiteRegisters x = ready(30, 9, 0);
        due("readsToCut(0), the wind 9", x.readsToCut(0), 4);
        x.beat(1);
        due("readsToCut(0), the wind 2", x.readsToCut(0), 11);
        // The tenth reading is to bring it to the cut; if that is taken, it is put above it.
        x = stack(2, 2);
        lift(x, 1, 30);
        x.wind(0, 2);
        due("readsToCut(0), the cut is taken", x.readsToCut(0), 10);
        x.takeDown(1);
        due("readsToCut(0), the cut is free", x.readsToCut(0), 11);
    }

    private static void readsToCutFewestAndMost() {
        sentence("23", "Returns how many, 1 to 100; UNKNOWN.");
        due("readsToCut(0), the most there can be", ready(80, 0, 0).readsToCut(0), 81);
        due("readsToCut(0), one less", ready(79, 0, 0).readsToCut(0), 80);
        due("readsToCut(0), from 79", ready(80, 0, 79).readsToCut(0), 2);
        due("readsToCut(0), from 80", ready(80, 0, 80).readsToCut(0), 1);
        due("readsToCut(0), the least cut", ready(5, 0, 0).readsToCut(0), 6);
        due("readsToCut(0), the least cut, from 4", ready(5, 0, 4).readsToCut(0), 2);
        due("readsToCut(0), the least cut, from 5", ready(5, 0, 5).readsToCut(0), 1);
        due("readsToCut(0), the least cut, from 6", ready(5, 0, 6).readsToCut(0), 1);
        due("readsToCut(0), the least cut, the wind 9", ready(5, 9, 0).readsToCut(0), 1);
        due("readsToCut(0), the wind 5", ready(5, 5, 0).readsToCut(0), 1);
        due("readsToCut(0), the wind 4", ready(5, 4, 0).readsToCut(0), 2);
        for (int k = 0; k < 12; k++) {
            due("readsToCut(" + k + "), as high as can be", highest().readsToCut(k), 1);
            KiteRegisters x = stack(0, 12);
            x.set(0, 80);
            x.wind(0, 0);
            // It jumps over all that are above it, from 12 on by 1.
            due("readsToCut(" + k + "), among twelve", x.readsToCut(k), 70);
            x.set(0, 12);
            due("readsToCut(" + k + "), among twelve, to the cut", x.readsToCut(k), 2);
            x.set(0, 11);
            due("readsToCut(" + k + "), among twelve, above the cut", x.readsToCut(k), 1);
        }
    }

    private static void readsToCutReturns() {
        sentence("23", "`kite`: a kite");
        noSuchKite("readsToCut", KiteRegisters::readsToCut);
        sentence("23", "Returns how many, 1 to 100; UNKNOWN.");
        // In busy() the cut is 20 and the wind 3: from 10 by 14 and 18; from 1 by 5, 9, 14 (over kite 0), 18.
        int[] reads = {3, 5, 6, 6, 5};
        for (int k = 0; k < 5; k++) {
            int kite = k;
            unchanged("readsToCut(" + k + ")", Bench::busy, x -> x.readsToCut(kite), reads[k]);
        }
    }

    // ---- downIn

    private static final String DOWN = "Tells in how many beats a kite is at the height told, or below it, if nothing is "
            + "read or written.";

    private static void downInHeight() {
        sentence("24", "`height`: 0 to 99");
        unchangedEach("downIn(0, %d)", Bench::busy, (x, height) -> x.downIn(0, height),
                BAD_VALUE, MIN, -2, -1, 100, 101, MAX);
        // Kite 0 of busy() stands at 10, and would stop at 2, above kites 1 and 2.
        int[] heights = {0, 1, 2, 3, 9, 10, 11, 98, 99};
        int[] beats = {NONE, NONE, 4, 4, 1, 0, 0, 0, 0};
        for (int i = 0; i < heights.length; i++) {
            int height = heights[i];
            unchanged("downIn(0, " + height + ")", Bench::busy, x -> x.downIn(0, height), beats[i]);
        }
    }

    private static KiteRegisters falling(int height, int sinking) {
        KiteRegisters x = new KiteRegisters();
        x.fly(3, 1);
        lift(x, 0, height);
        x.beat(1);
        x.set(1, sinking);
        return x;
    }

    private static void downInBeats() {
        sentence("24", DOWN);
        for (int sinking = 1; sinking <= 9; sinking++) {
            for (int height : new int[] {0, 1, 11, 12, 13, 17, 18, 19}) {
                KiteRegisters x = falling(18, sinking);
                int beats = x.downIn(0, height);
                due("downIn(0, " + height + ") by " + sinking, beats, Math.max(0, (18 - height + sinking - 1) / sinking));
                if (beats > 1) {
                    x.beat(beats - 1);
                    due("whether kite(0, 2) is above " + height + " a beat earlier", x.kite(0, 2) > height ? 1 : 0, 1);
                    x.beat(1);
                    due("whether kite(0, 2) is above " + height + " then", x.kite(0, 2) > height ? 1 : 0, 0);
                }
            }
        }
        // A fresh kite stays for a beat, whether it was read or written; it is 0 still if it is there.
        KiteRegisters x = falling(10, 2);
        due("downIn(0, 9), not fresh", x.downIn(0, 9), 1);
        x.write(0, 2);
        due("downIn(0, 9), fresh", x.downIn(0, 9), 2);
        due("downIn(0, 10), fresh", x.downIn(0, 10), 0);
        due("downIn(0, 8), fresh", x.downIn(0, 8), 2);
        due("downIn(0, 7), fresh", x.downIn(0, 7), 3);
        due("kite(0, 3), still", x.kite(0, 3), 1);
        due("kite(0, 2), still", x.kite(0, 2), 10);
        due("count(1), still", x.count(1), 1);
    }

    private static void downInHeld() {
        sentence("24", DOWN);
        // Kite 0 is at 4, fresh, and sinks by 2 from the second beat on; kite 1 starts at 5, 6 or 7.
        int[][] want = {{5, 0, 0, 2, 2, 3, NONE}, {6, 0, 1, 2, 2, 3, NONE}, {7, 1, 1, 2, 2, 3, NONE}};
        int[] heights = {6, 5, 4, 3, 1, 0};
        for (int[] row : want) {
            KiteRegisters x = empty();
            x.fly(2, 1);
            x.fly(2, 2);
            lift(x, 1, row[0]);
            lift(x, 0, 4);
            x.beat(1);
            x.set(1, 2);
            x.write(0, 3);
            for (int i = 0; i < heights.length; i++) {
                due("downIn(1, " + heights[i] + ") from " + row[0], x.downIn(1, heights[i]), row[i + 1]);
            }
            due("downIn(0, 0), the lower one", x.downIn(0, 0), 3);
            due("downIn(0, 2), the lower one", x.downIn(0, 2), 2);
        }
        // Each of twelve comes down to its own place, and never below it.
        KiteRegisters x = stack(1, 12);
        for (int k = 1; k < 12; k++) {
            due("downIn(" + k + ", " + k + ")", x.downIn(k, k), 0);
            due("downIn(" + k + ", " + (k - 1) + ")", x.downIn(k, k - 1), NONE);
        }
        due("downIn(0, 0)", x.downIn(0, 0), 0);
        // A kite on another string holds nothing, and neither does one that is above.
        x = stack(1, 2);
        x.fly(0, 1);
        x.takeDown(0);
        due("downIn(1, 0), nothing is below it", x.downIn(1, 0), 1);
    }

    private static void downInMost() {
        sentence("24", "Returns how many, up to 200 (0 if it is); UNKNOWN; BAD_VALUE; NONE if it takes longer.");
        // As high as can be, fresh, alone and by 1: that is all that a kite can take.
        KiteRegisters x = highest();
        x.move(11, 3);
        x.write(11, 1);
        due("kite(11, 2)", x.kite(11, 2), 91);
        due("downIn(11, 91)", x.downIn(11, 91), 0);
        due("downIn(11, 90)", x.downIn(11, 90), 2);
        due("downIn(11, 0), fresh", x.downIn(11, 0), 92);
        x.beat(1);
        due("downIn(11, 0)", x.downIn(11, 0), 91);
        due("downIn(11, 1)", x.downIn(11, 1), 90);
        due("downIn(10, 10), the highest of eleven", x.downIn(10, 10), 80);
        x.beat(90);
        due("downIn(11, 0), at 1", x.downIn(11, 0), 1);
        due("downIn(11, 1), at 1", x.downIn(11, 1), 0);
        x.beat(1);
        due("downIn(11, 0), down", x.downIn(11, 0), 0);
        // It never is: nothing sinks, or another one is where it would have to be.
        for (int sinking = 0; sinking <= 1; sinking++) {
            x = falling(10, sinking);
            due("downIn(0, 10) by " + sinking, x.downIn(0, 10), 0);
            due("downIn(0, 9) by " + sinking, x.downIn(0, 9), sinking == 0 ? NONE : 1);
            due("downIn(0, 0) by " + sinking, x.downIn(0, 0), sinking == 0 ? NONE : 10);
            due("downIn(0, 99) by " + sinking, x.downIn(0, 99), 0);
        }
    }

    private static void downInReturns() {
        sentence("24", "`kite`: a kite");
        noSuchKite("downIn(.., 0)", (x, k) -> x.downIn(k, 0));
        noSuchKite("downIn(.., 99)", (x, k) -> x.downIn(k, 99));
        order("24");
        unchanged("downIn(5, 100)", Bench::busy, x -> x.downIn(5, 100), UNKNOWN);
        unchanged("downIn(-1, -1)", Bench::busy, x -> x.downIn(-1, -1), UNKNOWN);
        unchanged("downIn(12, 100)", Bench::full, x -> x.downIn(12, 100), UNKNOWN);
        unchanged("downIn(11, 100)", Bench::full, x -> x.downIn(11, 100), BAD_VALUE);
    }

    // ---- safeWind

    private static final String SAFE = "Finds the greatest wind with which none of all kites would be cut if it was read "
            + "now (each one alone).";

    private static void safeWindGreatest() {
        sentence("25", SAFE);
        // The cut is at 30: from 20 the wind 9 brings a kite to it, from 21 the wind 8, and so on.
        int[] heights = {0, 19, 20, 21, 22, 28, 29, 30, 31};
        int[] winds = {9, 9, 9, 8, 7, 1, 0, NONE, NONE};
        for (int i = 0; i < heights.length; i++) {
            int height = heights[i];
            due("safeWind() from " + height, ready(30, 2, height).safeWind(), winds[i]);
            due("safeWind() from " + height + ", another wind of now", ready(30, 0, height).safeWind(), winds[i]);
        }
        due("safeWind(), the cut 5", ready(5, 2, 0).safeWind(), 4);
        due("safeWind(), the cut 9", ready(9, 2, 0).safeWind(), 8);
        due("safeWind(), the cut 10", ready(10, 2, 0).safeWind(), 9);
        due("safeWind(), the cut 80, from 70", ready(80, 2, 70).safeWind(), 9);
        due("safeWind(), the cut 80, from 71", ready(80, 2, 71).safeWind(), 8);
    }

    private static void safeWindLeast() {
        sentence("25", "Returns the wind, 0 to 9; NONE if there is none (without kites 9).");
        unchanged("safeWind() without kites", Bench::empty, KiteRegisters::safeWind, 9);
        due("safeWind(), the last one was taken down", without(ready(30, 2, 30), 0).safeWind(), 9);
        unchanged("safeWind(), none", () -> ready(30, 2, 30), KiteRegisters::safeWind, NONE);
        unchanged("safeWind(), the least", () -> ready(30, 2, 29), KiteRegisters::safeWind, 0);
        // In busy() the highest is at 10, and the cut at 20.
        unchanged("safeWind()", Bench::busy, KiteRegisters::safeWind, 9);
        KiteRegisters x = busy();
        x.set(0, 19);
        due("safeWind(), the cut 19", x.safeWind(), 8);
        x.set(0, 11);
        due("safeWind(), the cut 11", x.safeWind(), 0);
        x.set(0, 10);
        due("safeWind(), the cut 10", x.safeWind(), NONE);
        due("safeWind(), as high as can be", highest().safeWind(), NONE);
    }

    private static void safeWindEachAlone() {
        sentence("25", SAFE);
        // Kite 1 is at the cut on string 0, and moved away: it may be in the way of kite 0 alone.
        for (int height = 3; height <= 6; height++) {
            KiteRegisters x = empty();
            x.set(0, 7);
            x.fly(0, 1);
            x.fly(0, 2);
            lift(x, 1, height);
            // Kite 0 from 0 to 7 by the wind 6, or less if that is taken: kite 1 from its height by 6 less that.
            due("safeWind(), another at " + height, x.safeWind(), 6 - height);
        }
        // The one that is put above the cut by the other, though by its own wind it would be at it.
        KiteRegisters x = empty();
        x.set(0, 80);
        x.fly(0, 1);
        x.fly(0, 2);
        lift(x, 1, 7);
        lift(x, 0, 5);
        x.set(0, 8);
        due("safeWind(), 5 and 7", x.safeWind(), 0);
        x.set(0, 7);
        due("safeWind(), 5 and 7, the cut is taken", x.safeWind(), NONE);
        x.takeDown(1);
        due("safeWind(), 5", x.safeWind(), 1);
        // Each alone: both may not be at 6, but each of them may.
        x = empty();
        x.set(0, 6);
        x.fly(0, 1);
        x.fly(1, 1);
        due("safeWind(), two strings", x.safeWind(), 5);
        x = stack(0, 2);
        x.set(0, 6);
        due("safeWind(), 0 and 1", x.safeWind(), 4);
        // All of twelve: the lowest one lands right above them by the wind 0.
        x = stack(0, 12);
        x.set(0, 12);
        due("safeWind(), twelve, to the cut", x.safeWind(), 0);
        x.set(0, 11);
        due("safeWind(), twelve, above the cut", x.safeWind(), NONE);
        x.set(0, 13);
        due("safeWind(), twelve, below the cut", x.safeWind(), 1);
    }

    // ---- calmest

    private static final String CALMEST = "Finds the string on which a new kite would land the lowest, of several that "
            + "with the fewest weights, of these the lowest.";

    private static void calmestLowest() {
        sentence("26", CALMEST);
        sentence("26", "Returns the string.");
        unchanged("calmest() of a new object", Bench::empty, KiteRegisters::calmest, 0);
        unchanged("calmest(), only 3 is empty", Bench::busy, KiteRegisters::calmest, 3);
        unchanged("calmest(), all alike", Bench::full, KiteRegisters::calmest, 0);
        // A kite would land at 2 everywhere but on one string, where it would at 1, or at 3.
        for (int s = 0; s < 4; s++) {
            KiteRegisters x = empty();
            for (int other = 0; other < 4; other++) {
                for (int k = 0; k < (other == s ? 1 : 2); k++) {
                    x.fly(other, k);
                }
            }
            due("calmest(), one less on " + s, x.calmest(), s);
            x.fly(s, 5);
            x.fly(s, 6);
            due("calmest(), one more on " + s, x.calmest(), s == 0 ? 1 : 0);
        }
        // It lands at 0 below all that are higher, how much they may weigh.
        KiteRegisters x = empty();
        for (int s = 0; s < 4; s++) {
            x.fly(s, s);
        }
        lift(x, 2, 30);
        due("calmest(), 30 is no hindrance", x.calmest(), 2);
        x.fly(2, 5);
        due("calmest(), 0 and 30", x.calmest(), 0);
    }

    private static void calmestFewestWeights() {
        sentence("26", CALMEST);
        for (int s = 0; s < 4; s++) {
            // Nothing at 0; the others at 5, one of them at 4, or at 6.
            for (int height = 4; height <= 6; height++) {
                KiteRegisters x = empty();
                for (int other = 0; other < 4; other++) {
                    x.fly(other, other);
                    lift(x, other, other == s ? height : 5);
                }
                int alike = height == 5 || s > 0 ? 0 : 1;
                due("calmest(), " + height + " on " + s, x.calmest(), height == 4 ? s : alike);
            }
        }
        // Weights, not kites: 1 and 2 weigh 5, as 4 does; 1 and 3 weigh 6, more than 4 does.
        KiteRegisters x = empty();
        x.fly(0, 1);
        x.fly(0, 1);
        lift(x, 1, 2);
        lift(x, 0, 1);
        for (int s = 1; s < 4; s++) {
            x.fly(s, s);
            lift(x, s + 1, 4);
        }
        due("calmest(), 5 each", x.calmest(), 0);
        lift(x, 1, 3);
        due("calmest(), 6 on the string 0", x.calmest(), 1);
    }

    private static void calmestOfThese() {
        sentence("26", CALMEST);
        // All alike but for those that have one kite more: the lowest of the others.
        for (int taken = 0; taken < 16; taken++) {
            KiteRegisters x = empty();
            int lowest = 0;
            for (int s = 3; s >= 0; s--) {
                if ((taken >> s & 1) == 1) {
                    x.fly(s, s);
                } else {
                    lowest = s;
                }
            }
            due("calmest(), the strings taken are " + taken, x.calmest(), lowest);
        }
        // With twelve kites no new one can fly, but it is told still.
        KiteRegisters x = stack(0, 12);
        due("calmest() with twelve", x.calmest(), 1);
        for (int k = 0; k < 12; k++) {
            x.move(k, k % 3);
        }
        due("calmest() with twelve, 3 is empty", x.calmest(), 3);
    }

    // ---- count

    private static final String COUNT = "`what`: 0 for kites, 1 for the beat, 2 for the wind of now, 3 for readings so far, "
            + "4 for cuts so far, 5 for fresh kites, 6 for the greatest height, 7 for the weights of all kites together, 8 "
            + "and 9 for the settings 0 and 1, 10 for beats so far, 11 for the states in the history, 12 for the length of "
            + "the text";

    private static void countWhat() {
        sentence("27", COUNT);
        sentence("27", "Returns the number; BAD_VALUE.");
        whats("count", Bench::empty, KiteRegisters::count, 0, 12);
        whats("count", Bench::busy, KiteRegisters::count, 0, 12);
        int[] want = {5, 1, 3, 5, 1, 2, 10, 20, 20, 2, 1, 4, 14};
        int[] full = {12, 0, 2, 0, 0, 0, 2, 24, 30, 1, 0, 4, 13};
        int[] first = {0, 0, 2, 0, 0, 0, 0, 0, 30, 1, 0, 0, 0};
        for (int w = 0; w <= 12; w++) {
            due("count(" + w + ") of busy()", busy().count(w), want[w]);
            due("count(" + w + ") of full()", full().count(w), full[w]);
            due("count(" + w + ") at first", empty().count(w), first[w]);
        }
    }

    private static void countFromNought() {
        sentence("27", COUNT);
        KiteRegisters x = empty();
        for (int k = 1; k <= 12; k++) {
            x.fly(k % 4, k);
            due("count(0)", x.count(0), k);
            x.write(k - 1, 5);
            due("count(5)", x.count(5), k);
        }
        x.fly(0, 1);
        due("count(0), the 13th was refused", x.count(0), 12);
        for (int reads = 1; reads <= 13; reads++) {
            x.read(0);
            due("count(3)", x.count(3), reads);
        }
        x.read(12);
        due("count(3), a refused reading", x.count(3), 13);
        due("count(5), all still", x.count(5), 12);
        x.takeDown(3);
        due("count(5), one of them is gone", x.count(5), 11);
        due("count(0), one of them is gone", x.count(0), 11);
        x.beat(1);
        due("count(5), behind a beat", x.count(5), 0);
        for (int beats = 1; beats <= 9; beats++) {
            due("count(10)", x.count(10), beats);
            due("count(1)", x.count(1), beats % 8);
            x.beat(1);
        }
        x.takeDown(0);
        due("count(3), the one that was read is gone", x.count(3), 13);
    }

    private static void countGreatestHeight() {
        sentence("27", COUNT);
        KiteRegisters x = empty();
        due("count(6), no kites", x.count(6), 0);
        x.fly(3, 1);
        due("count(6), one at 0", x.count(6), 0);
        x.fly(3, 1);
        due("count(6), one at 1", x.count(6), 1);
        x.fly(0, 1);
        due("count(6), another string", x.count(6), 1);
        lift(x, 2, 30);
        due("count(6), at the cut", x.count(6), 30);
        x.read(2);
        due("count(6), cut", x.count(6), 1);
        due("count(6), as high as can be", highest().count(6), 91);
        x.takeDown(1);
        due("count(6), the highest is gone", x.count(6), 0);
        x.takeDown(0);
        x.takeDown(2);
        due("count(6), all are gone", x.count(6), 0);
        due("count(7), all are gone", x.count(7), 0);
    }

    private static void countSums() {
        sentence("27", COUNT);
        Start[] starts = {Bench::empty, Bench::busy, Bench::full, ToldBoundaries::highest, ToldBoundaries::low};
        for (Start start : starts) {
            KiteRegisters x = start.make();
            for (int k = 0; k < 12; k++) {
                x.read(k);
            }
            int[] sums = new int[6];
            for (int s = 0; s < 4; s++) {
                for (int w = 0; w <= 5; w++) {
                    sums[w] += x.string(s, w);
                }
            }
            due("count(0), the strings'", x.count(0), sums[0]);
            due("count(7), the strings'", x.count(7), sums[1]);
            due("count(4), the strings'", x.count(4), sums[5]);
            int reads = 0;
            int cuts = 0;
            int fresh = 0;
            for (int k = 0; k < 12; k++) {
                boolean flies = x.kite(k, 0) != UNKNOWN;
                reads += flies ? x.kite(k, 4) : 0;
                cuts += flies ? x.kite(k, 5) : 0;
                fresh += flies ? x.kite(k, 3) : 0;
            }
            due("count(3), the kites'", x.count(3), reads);
            due("count(4), the kites'", x.count(4), cuts);
            due("count(5), the kites'", x.count(5), fresh);
        }
    }
}
