/** Boundaries of promises 7 to 9, and of what the document says ahead of them of beats, winds and sinking. */
final class BeatBoundaries extends Boundaries {

    static void all() {
        beats();
        beatComesRoundAgain();
        beatReturns();
        sinksByTheSetting();
        sinksNotBelowNought();
        sinksNotOntoAnother();
        sinksFromTheLowestOn();
        sinksByStrings();
        heightsAreNeverBelowNought();
        thenNoneIsFresh();
        windsAtFirst();
        windBeat();
        windValue();
        windReturns();
        setWhich();
        setCut();
        setSinking();
        setReturns();
        aboveACutThatIsMadeLess();
    }

    // ---- beats

    private static void beats() {
        sentence("7", "`beats`: 1 to 100");
        unchangedEach("beat(%d)", Bench::busy, (x, beats) -> x.beat(beats), BAD_VALUE, MIN, -1, 0, 101, 102, MAX);
        for (int beats : new int[] {1, 2, 99, 100}) {
            KiteRegisters x = act("beat(" + beats + ")", Bench::busy, y -> y.beat(beats), (1 + beats) % 8);
            due("count(10)", x.count(10), 1 + beats);
            due("count(1)", x.count(1), (1 + beats) % 8);
        }
        // How many they are is seen by what sinks, too.
        for (int beats = 78; beats <= 82; beats++) {
            KiteRegisters x = empty();
            x.set(0, 80);
            x.fly(0, 1);
            lift(x, 0, 80);
            x.beat(1);
            x.beat(beats);
            due("kite(0, 2) behind " + beats, x.kite(0, 2), Math.max(80 - beats, 0));
        }
    }

    private static void beatComesRoundAgain() {
        sentence("1 7", "The beat is 0 at first, and behind 7 comes 0 again.");
        KiteRegisters x = empty();
        due("count(1), at first", x.count(1), 0);
        int[] next = {1, 2, 3, 4, 5, 6, 7, 0, 1, 2, 3, 4, 5, 6, 7, 0, 1};
        for (int i = 0; i < next.length; i++) {
            due("beat(1)", x.beat(1), next[i]);
            due("count(1)", x.count(1), next[i]);
            due("count(10)", x.count(10), i + 1);
        }
        int[] several = {6, 7, 8, 9, 15, 16, 17, 95, 96, 97};
        int[] then = {6, 7, 0, 1, 7, 0, 1, 7, 0, 1};
        for (int i = 0; i < several.length; i++) {
            due("beat(" + several[i] + ") of a new object", empty().beat(several[i]), then[i]);
        }
        x = empty();
        x.beat(7);
        due("beat(100) at the beat 7", x.beat(100), 3);
        due("count(10)", x.count(10), 107);
    }

    private static void beatReturns() {
        sentence("7", "Lets beats pass. This is an act.");
        KiteRegisters x = act("beat(1), no kites", Bench::empty, y -> y.beat(1), 1);
        due("count(10)", x.count(10), 1);
        x = act("beat(8), the same beat then", Bench::empty, y -> y.beat(8), 0);
        due("count(10)", x.count(10), 8);
        sentence("7", "Returns the beat then; BAD_VALUE.");
        act("beat(6) from the beat 1", Bench::busy, y -> y.beat(6), 7);
        act("beat(7) from the beat 1", Bench::busy, y -> y.beat(7), 0);
        act("beat(8) from the beat 1", Bench::busy, y -> y.beat(8), 1);
        unchanged("beat(0) from the beat 1", Bench::busy, y -> y.beat(0), BAD_VALUE);
        unchanged("beat(101) from the beat 1", Bench::busy, y -> y.beat(101), BAD_VALUE);
    }

    // ---- sinking

    private static final String SINKS = "With a beat each kite that is not fresh sinks, by strings, and on each string "
            + "from the lowest kite on: by the setting 1 (0 to 9; 1 at first), but not below 0, and not to a height "
            + "that is taken, or through one: it stops right above the kite below it.";

    /** Kite 0 at that height on string 1, not fresh. */
    private static KiteRegisters sinkingFrom(int height, int sinking) {
        KiteRegisters x = new KiteRegisters();
        x.set(0, 80);
        x.fly(1, 1);
        lift(x, 0, height);
        x.beat(1);
        x.set(1, sinking);
        return x;
    }

    private static void sinksByTheSetting() {
        sentence("7", SINKS);
        due("count(9)", empty().count(9), 1);
        for (int sinking = 0; sinking <= 9; sinking++) {
            KiteRegisters x = sinkingFrom(40, sinking);
            due("kite(0, 2), fresh in the beat", x.kite(0, 2), 40);
            x.beat(1);
            due("kite(0, 2) by " + sinking, x.kite(0, 2), 40 - sinking);
            x.beat(2);
            due("kite(0, 2) by " + sinking + ", three times", x.kite(0, 2), 40 - 3 * sinking);
        }
    }

    private static void sinksNotBelowNought() {
        sentence("7", SINKS);
        for (int sinking : new int[] {0, 1, 2, 8, 9}) {
            for (int height = Math.max(0, sinking - 1); height <= sinking + 1; height++) {
                KiteRegisters x = sinkingFrom(height, sinking);
                x.beat(1);
                due("kite(0, 2) from " + height + " by " + sinking, x.kite(0, 2), Math.max(height - sinking, 0));
            }
        }
    }

    /** Kite 0 at 4, written in this beat, so it stays; kite 1 higher by the gap and 1, not fresh. */
    private static KiteRegisters overFresh(int gap, int sinking) {
        KiteRegisters x = new KiteRegisters();
        x.fly(2, 1);
        x.fly(2, 2);
        lift(x, 1, 5 + gap);
        lift(x, 0, 4);
        x.beat(1);
        x.set(1, sinking);
        x.write(0, 3);
        return x;
    }

    private static void sinksNotOntoAnother() {
        sentence("7", SINKS);
        for (int sinking : new int[] {0, 1, 2, 5, 9}) {
            for (int gap : new int[] {0, 1, sinking - 1, sinking, sinking + 1}) {
                if (gap < 0) {
                    continue;
                }
                KiteRegisters x = overFresh(gap, sinking);
                String name = "a gap of " + gap + " and a sinking by " + sinking;
                due("kite(1, 2) ahead, " + name, x.kite(1, 2), 5 + gap);
                x.beat(1);
                due("kite(0, 2), fresh, " + name, x.kite(0, 2), 4);
                // It may sink through the gap alone, and stops at 5, right above the kite at 4.
                due("kite(1, 2), " + name, x.kite(1, 2), gap > sinking ? 5 + gap - sinking : 5);
            }
        }
        // What is fresh above does not hold what sinks below.
        KiteRegisters x = overFresh(3, 2);
        x.write(1, 9);
        x.beat(1);
        x.write(1, 9);
        x.beat(1);
        due("kite(0, 2), below a fresh one", x.kite(0, 2), 2);
        due("kite(1, 2), fresh", x.kite(1, 2), 8);
    }

    private static void sinksFromTheLowestOn() {
        sentence("7", SINKS);
        // Twelve kites without a gap, the highest number the lowest: each makes room for the next.
        KiteRegisters x = stack(3, 12);
        for (int k = 0; k < 12; k++) {
            lift(x, k, 24 - k);
        }
        int[] sunk = {0, 1, 2, 11, 13, 13};
        for (int beats = 1; beats <= 6; beats++) {
            if (beats == 4) {
                x.set(1, 9);
            }
            x.beat(1);
            for (int k = 0; k < 12; k++) {
                due("kite(" + k + ", 2) behind " + beats, x.kite(k, 2), 24 - k - sunk[beats - 1]);
            }
        }
    }

    private static void sinksByStrings() {
        sentence("7", SINKS);
        // Kites at one height on several strings are in nobody's way.
        KiteRegisters x = empty();
        for (int s = 0; s < 4; s++) {
            x.fly(s, s);
            x.read(s);
        }
        x.beat(1);
        x.write(1, 5);
        x.beat(1);
        int[] heights = {2, 3, 2, 2};
        for (int s = 0; s < 4; s++) {
            due("kite(" + s + ", 2)", x.kite(s, 2), heights[s]);
        }
        x.beat(100);
        for (int s = 0; s < 4; s++) {
            due("kite(" + s + ", 2), down", x.kite(s, 2), 0);
        }
    }

    private static void heightsAreNeverBelowNought() {
        sentence("7", "and is on a string at a height (0 or more).");
        for (int height = 0; height <= 2; height++) {
            KiteRegisters x = sinkingFrom(height, 1);
            for (int beats = 1; beats <= 3; beats++) {
                x.beat(1);
                due("kite(0, 2) from " + height, x.kite(0, 2), Math.max(height - beats, 0));
            }
            x.set(1, 9);
            x.beat(100);
            due("kite(0, 2) behind 100", x.kite(0, 2), 0);
            due("string(1, 1), it weighs 1", x.string(1, 1), 1);
        }
        // Those that stand on one at 0 stay above it.
        KiteRegisters x = stack(1, 12);
        x.set(1, 9);
        x.beat(100);
        for (int k = 0; k < 12; k++) {
            due("kite(" + k + ", 2)", x.kite(k, 2), k);
        }
    }

    private static void thenNoneIsFresh() {
        sentence("7", "Then none is fresh, and the next beat comes.");
        KiteRegisters x = full();
        for (int k = 0; k < 12; k++) {
            x.write(k, 1);
        }
        due("count(5), all", x.count(5), 12);
        x.beat(1);
        due("count(5), none", x.count(5), 0);
        for (int k = 0; k < 12; k++) {
            due("kite(" + k + ", 3)", x.kite(k, 3), 0);
        }
        due("count(1)", x.count(1), 1);
        // Of several beats only the first one finds it fresh.
        for (int beats = 1; beats <= 3; beats++) {
            x = empty();
            x.fly(0, 1);
            lift(x, 0, 9);
            x.beat(beats);
            due("kite(0, 2) behind beat(" + beats + ")", x.kite(0, 2), 10 - beats);
            due("kite(0, 3) behind beat(" + beats + ")", x.kite(0, 3), 0);
        }
    }

    // ---- winds

    private static void windsAtFirst() {
        sentence("8 21", "There are 8 winds, one for each beat from 0 to 7, each 0 to 9 (2 at first).");
        KiteRegisters x = empty();
        due("windOf(-1)", x.windOf(-1), UNKNOWN);
        for (int b = 0; b <= 7; b++) {
            due("windOf(" + b + ")", x.windOf(b), 2);
        }
        due("windOf(8)", x.windOf(8), UNKNOWN);
        for (int b = 0; b <= 7; b++) {
            due("wind(" + b + ", " + (b + 2) + ")", x.wind(b, b + 2), b == 0 ? NONE : 2);
        }
        for (int b = 0; b <= 7; b++) {
            due("windOf(" + b + "), set", x.windOf(b), b + 2);
            due("count(2) at the beat " + b, x.count(2), b + 2);
            x.beat(1);
        }
        due("count(2) at the beat 0 again", x.count(2), 2);
    }

    private static void windBeat() {
        sentence("8", "`beat`: 0 to 7");
        unchangedEach("wind(%d, 5)", Bench::busy, (x, beat) -> x.wind(beat, 5), UNKNOWN, MIN, -2, -1, 8, 9, MAX);
        for (int beat : new int[] {0, 1, 6, 7}) {
            int was = busy().windOf(beat);
            KiteRegisters x = act("wind(" + beat + ", 5)", Bench::busy, y -> y.wind(beat, 5), was);
            for (int b = 0; b <= 7; b++) {
                due("windOf(" + b + ")", x.windOf(b), b == beat ? 5 : busy().windOf(b));
            }
            due("count(2)", x.count(2), beat == 1 ? 5 : 3);
        }
    }

    private static void windValue() {
        sentence("8", "`wind`: 0 to 9");
        unchangedEach("wind(1, %d)", Bench::busy, (x, wind) -> x.wind(1, wind), BAD_VALUE, MIN, -2, -1, 10, 11, MAX);
        for (int wind : new int[] {0, 1, 8, 9}) {
            KiteRegisters x = act("wind(1, " + wind + ")", Bench::busy, y -> y.wind(1, wind), 3);
            due("windOf(1)", x.windOf(1), wind);
            due("count(2)", x.count(2), wind);
            due("ifRead(3, 1)", x.ifRead(3, 1), wind + 1);
        }
    }

    private static void windReturns() {
        sentence("8", "Sets the wind of a beat. This is an act.");
        KiteRegisters x = act("wind(7, 0)", Bench::empty, y -> y.wind(7, 0), 2);
        due("windOf(7)", x.windOf(7), 0);
        sentence("8", "Returns the previous one; UNKNOWN; BAD_VALUE; NONE if it is so already.");
        due("wind(7, 9)", x.wind(7, 9), 0);
        due("wind(7, 9), again", x.wind(7, 9), NONE);
        due("wind(7, 8)", x.wind(7, 8), 9);
        unchanged("wind(0, 2), as at first", Bench::empty, y -> y.wind(0, 2), NONE);
        unchanged("wind(0, 9), as it is", Bench::busy, y -> y.wind(0, 9), NONE);
        unchanged("wind(1, 3), as it is", Bench::busy, y -> y.wind(1, 3), NONE);
        act("wind(1, 2), one less", Bench::busy, y -> y.wind(1, 2), 3);
        act("wind(1, 4), one more", Bench::busy, y -> y.wind(1, 4), 3);
        order("8");
        unchanged("wind(8, 10)", Bench::busy, y -> y.wind(8, 10), UNKNOWN);
        unchanged("wind(-1, -1)", Bench::busy, y -> y.wind(-1, -1), UNKNOWN);
        unchanged("wind(8, 2)", Bench::busy, y -> y.wind(8, 2), UNKNOWN);
        unchanged("wind(7, 10)", Bench::busy, y -> y.wind(7, 10), BAD_VALUE);
        unchanged("wind(7, -1)", Bench::busy, y -> y.wind(7, -1), BAD_VALUE);
    }

    // ---- settings

    private static void setWhich() {
        sentence("9", "`which`: 0 or 1");
        unchangedEach("set(%d, 7)", Bench::busy, (x, which) -> x.set(which, 7), UNKNOWN, MIN, -2, -1, 2, 3, MAX);
        KiteRegisters x = act("set(0, 7)", Bench::busy, y -> y.set(0, 7), 20);
        due("count(8)", x.count(8), 7);
        due("count(9)", x.count(9), 2);
        x = act("set(1, 7)", Bench::busy, y -> y.set(1, 7), 2);
        due("count(8)", x.count(8), 20);
        due("count(9)", x.count(9), 7);
    }

    private static void setCut() {
        sentence("9", "`value`: in its range");
        sentence("9", "(the setting 0; 5 to 80; 30 at first)");
        due("count(8), at first", empty().count(8), 30);
        unchangedEach("set(0, %d)", Bench::busy, (x, value) -> x.set(0, value),
                BAD_VALUE, MIN, -1, 0, 3, 4, 81, 82, MAX);
        for (int value : new int[] {5, 6, 79, 80}) {
            KiteRegisters x = act("set(0, " + value + ")", Bench::busy, y -> y.set(0, value), 20);
            due("count(8)", x.count(8), value);
            due("set(0, 20)", x.set(0, 20), value);
        }
    }

    private static void setSinking() {
        sentence("9", "`value`: in its range");
        sentence("9", "by the setting 1 (0 to 9; 1 at first)");
        due("count(9), at first", empty().count(9), 1);
        unchangedEach("set(1, %d)", Bench::busy, (x, value) -> x.set(1, value), BAD_VALUE, MIN, -2, -1, 10, 11, MAX);
        for (int value : new int[] {0, 1, 8, 9}) {
            KiteRegisters x = act("set(1, " + value + ")", Bench::busy, y -> y.set(1, value), 2);
            due("count(9)", x.count(9), value);
            due("set(1, 2)", x.set(1, 2), value);
        }
    }

    private static void setReturns() {
        sentence("9", "Returns the previous one; UNKNOWN; BAD_VALUE; NONE if it is so already.");
        unchanged("set(0, 30), as at first", Bench::empty, y -> y.set(0, 30), NONE);
        unchanged("set(1, 1), as at first", Bench::empty, y -> y.set(1, 1), NONE);
        unchanged("set(0, 20), as it is", Bench::busy, y -> y.set(0, 20), NONE);
        unchanged("set(1, 2), as it is", Bench::busy, y -> y.set(1, 2), NONE);
        for (int value : new int[] {19, 21}) {
            act("set(0, " + value + ")", Bench::busy, y -> y.set(0, value), 20);
        }
        for (int value : new int[] {1, 3}) {
            act("set(1, " + value + ")", Bench::busy, y -> y.set(1, value), 2);
        }
        order("9");
        unchanged("set(2, 81)", Bench::busy, y -> y.set(2, 81), UNKNOWN);
        unchanged("set(-1, -1)", Bench::busy, y -> y.set(-1, -1), UNKNOWN);
        unchanged("set(2, 20)", Bench::busy, y -> y.set(2, 20), UNKNOWN);
        unchanged("set(0, 2)", Bench::busy, y -> y.set(0, 2), BAD_VALUE);
        unchanged("set(1, 20)", Bench::busy, y -> y.set(1, 20), BAD_VALUE);
    }

    private static void aboveACutThatIsMadeLess() {
        sentence("9", "Sets a setting; kites that are above a cut that is made less stay until they are read. "
                + "This is an act.");
        for (int cut = 11; cut <= 13; cut++) {
            KiteRegisters x = empty();
            x.fly(3, 1);
            lift(x, 0, 12);
            x.wind(0, 0);
            x.set(0, cut);
            due("kite(0, 1), the cut at " + cut, x.kite(0, 1), 3);
            due("kite(0, 2), the cut at " + cut, x.kite(0, 2), 12);
            due("count(4), the cut at " + cut, x.count(4), 0);
            x.write(0, 2);
            x.move(0, 1);
            x.beat(1);
            due("kite(0, 1), written and moved", x.kite(0, 1), 1);
            due("kite(0, 2), written and moved", x.kite(0, 2), 12);
            x.wind(1, 0);
            x.read(0);
            boolean isCut = cut < 13;
            due("kite(0, 1), read", x.kite(0, 1), isCut ? 2 : 1);
            due("kite(0, 2), read", x.kite(0, 2), isCut ? 0 : 13);
            due("kite(0, 5), read", x.kite(0, 5), isCut ? 1 : 0);
        }
        // It sinks as any other, and what is not above the cut then is not cut.
        KiteRegisters x = sinkingFrom(12, 5);
        x.wind(2, 0);
        x.set(0, 8);
        x.beat(1);
        due("kite(0, 2), sunk", x.kite(0, 2), 7);
        x.read(0);
        due("kite(0, 1), read", x.kite(0, 1), 1);
        due("kite(0, 2), read", x.kite(0, 2), 8);
        x.set(0, 80);
        x.set(0, 8);
        due("kite(0, 2), the cut went up and down", x.kite(0, 2), 8);
    }
}
