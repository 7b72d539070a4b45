/** Boundaries of promises 14 to 16, and of what the document says ahead of them of the history and of errors. */
final class HistoryBoundaries extends Boundaries {

    static void all() {
        historyOfFour();
        undoReturns();
        actsRecord();
        othersRecordNothing();
        refusedActsRecordNothing();
        keepReturns();
        keepInPlaceOfTheOther();
        restoreReturns();
        restoreStays();
        oneSnapshot();
        stateIsEverythingBut();
        constants();
        noneOnlyIfNoErrorApplies();
        fiveHundredAndTwelveCalls();
    }

    // ---- undo

    /** After each act a fact is another one: so many beats passed. */
    private static KiteRegisters beaten(int acts) {
        KiteRegisters x = new KiteRegisters();
        for (int i = 0; i < acts; i++) {
            x.beat(1);
        }
        return x;
    }

    private static void historyOfFour() {
        sentence("14", "A history of at most 4 states is kept; when one more is recorded, the oldest one is dropped; "
                + "undo() removes and restores the latest one.");
        for (int acts = 0; acts <= 10; acts++) {
            KiteRegisters x = beaten(acts);
            int kept = Math.min(acts, 4);
            due("count(11) behind " + acts, x.count(11), kept);
            for (int undone = 1; undone <= kept; undone++) {
                due("undo() behind " + acts, x.undo(), kept - undone);
                due("count(11)", x.count(11), kept - undone);
                due("count(10)", x.count(10), acts - undone);
            }
            due("undo() of nothing behind " + acts, x.undo(), NONE);
            due("count(11)", x.count(11), 0);
            due("count(10)", x.count(10), acts - kept);
        }
        // Undone in between: the places of dropped and of restored states are used again.
        for (int undone = 1; undone <= 4; undone++) {
            for (int acts = 1; acts <= 6; acts++) {
                KiteRegisters x = beaten(5);
                for (int i = 0; i < undone; i++) {
                    x.undo();
                }
                for (int i = 0; i < acts; i++) {
                    x.fly(i % 4, i);
                }
                int kept = Math.min(4, 4 - undone + acts);
                due("count(11), " + undone + " undone, then " + acts, x.count(11), kept);
                for (int left = kept - 1; left >= 0; left--) {
                    due("undo(), " + undone + " undone, then " + acts, x.undo(), left);
                    int steps = kept - left;
                    due("count(0)", x.count(0), Math.max(0, acts - steps));
                    due("count(10)", x.count(10), 5 - undone - Math.max(0, steps - acts));
                }
                due("undo() of nothing", x.undo(), NONE);
            }
        }
    }

    private static void undoReturns() {
        sentence("14", "Removes and restores the latest state of the history.");
        sentence("14", "Returns the number of states that are left; NONE if the history is empty.");
        unchanged("undo() of a new object", Bench::empty, KiteRegisters::undo, NONE);
        unchanged("undo(), all are undone", () -> undone(busy(), 4), KiteRegisters::undo, NONE);
        for (int left = 3; left >= 0; left--) {
            KiteRegisters x = undone(busy(), 3 - left);
            due("undo()", x.undo(), left);
        }
        due("undo(), the only one", beaten(1).undo(), 0);
        // What was undone is gone: it is not recorded, and undo() is no act.
        KiteRegisters x = beaten(2);
        x.undo();
        due("count(11)", x.count(11), 1);
        x.undo();
        due("count(10)", x.count(10), 0);
        due("undo(), nothing is left", x.undo(), NONE);
        due("count(10)", x.count(10), 0);
    }

    private static KiteRegisters undone(KiteRegisters x, int times) {
        for (int i = 0; i < times; i++) {
            x.undo();
        }
        return x;
    }

    private static void actsRecord() {
        sentence("2 3 4 5 6 7 8 9 12 16", "Each call of a method that is described as an act, and returns no error and "
                + "not NONE, records the state that was before it.");
        for (int states = 0; states <= 4; states++) {
            int undone = 4 - states;
            Start start = () -> undone(busy(), undone);
            act("fly(3, 1)", start, x -> x.fly(3, 1), 5);
            act("takeDown(0)", start, x -> x.takeDown(0), 11);
            act("read(0)", start, x -> x.read(0), 11);
            act("write(0, 11)", start, x -> x.write(0, 11), 11);
            act("move(0, 3)", start, x -> x.move(0, 3), 10);
            act("beat(8)", start, x -> x.beat(8), 1);
            act("wind(7, 0)", start, x -> x.wind(7, 0), 2);
            act("set(0, 5)", start, x -> x.set(0, 5), 20);
            act("set(1, 0)", start, x -> x.set(1, 0), 2);
            act("perform()", start, KiteRegisters::perform, 2);
            act("restore()", start, KiteRegisters::restore, 5);
        }
    }

    private static void othersRecordNothing() {
        sentence("10 11 13 14 15", "Each call of a method that is described as an act, and returns no error and not NONE, "
                + "records the state that was before it.");
        for (int states = 0; states <= 4; states++) {
            KiteRegisters x = undone(busy(), 4 - states);
            due("count(11)", x.count(11), states);
            x.type('x');
            due("count(11) behind type()", x.count(11), states);
            x.clearText();
            due("count(11) behind clearText()", x.count(11), states);
            x.keep();
            due("count(11) behind keep()", x.count(11), states);
            x.stopped(0);
            state(x);
            due("count(11) behind all that is told", x.count(11), states);
            due("undo()", x.undo(), states == 0 ? NONE : states - 1);
        }
    }

    private static void refusedActsRecordNothing() {
        sentence("2 3 4 5 6 7 8 9 12 16", "A call that returns an error or NONE changes nothing "
                + "(but for the latest stop of perform()).");
        Start[] starts = {() -> undone(busy(), 4), () -> undone(busy(), 1), Bench::busy};
        for (Start start : starts) {
            unchanged("fly(4, 1)", start, x -> x.fly(4, 1), UNKNOWN);
            unchanged("fly(0, 1000)", start, x -> x.fly(0, 1000), BAD_VALUE);
            unchanged("takeDown(5)", start, x -> x.takeDown(5), UNKNOWN);
            unchanged("read(5)", start, x -> x.read(5), UNKNOWN);
            unchanged("write(5, 1)", start, x -> x.write(5, 1), UNKNOWN);
            unchanged("write(0, 1000)", start, x -> x.write(0, 1000), BAD_VALUE);
            unchanged("move(5, 1)", start, x -> x.move(5, 1), UNKNOWN);
            unchanged("move(0, 0)", start, x -> x.move(0, 0), NONE);
            unchanged("beat(0)", start, x -> x.beat(0), BAD_VALUE);
            unchanged("wind(0, 9)", start, x -> x.wind(0, 9), NONE);
            unchanged("wind(0, 10)", start, x -> x.wind(0, 10), BAD_VALUE);
            unchanged("set(0, 20)", start, x -> x.set(0, 20), NONE);
            unchanged("set(0, 81)", start, x -> x.set(0, 81), BAD_VALUE);
        }
        unchanged("fly(0, 1) with 12", Bench::full, x -> x.fly(0, 1), FULL);
        unchanged("restore() without a snapshot", () -> stack(1, 3), KiteRegisters::restore, NONE);
        unchanged("undo() without states", Bench::empty, KiteRegisters::undo, NONE);
    }

    // ---- keep, restore

    private static void keepReturns() {
        sentence("15", "Returns how many kites there are.");
        for (int kites = 0; kites <= 12; kites++) {
            KiteRegisters x = stack(3, kites);
            int states = x.count(11);
            due("keep() of " + kites, x.keep(), kites);
            due("count(11), no act", x.count(11), states);
            same("keep() of " + kites, state(x), state(stack(3, kites)));
        }
        due("keep() without 0", without(full(), 0).keep(), 11);
    }

    private static void keepInPlaceOfTheOther() {
        sentence("15", "Takes a snapshot of the state, in place of the one that was.");
        KiteRegisters x = busy();
        x.takeDown(0);
        due("keep()", x.keep(), 4);
        x.takeDown(1);
        due("restore(), the second one", x.restore(), 4);
        x.takeDown(2);
        x.takeDown(3);
        due("keep(), the third one", x.keep(), 2);
        due("restore(), the third one", x.restore(), 2);
        // What comes later does not change what was kept, and taking it changes nothing.
        x = busy();
        x.keep();
        x.beat(3);
        x.read(0);
        x.write(4, 5);
        x.wind(5, 5);
        x.set(0, 6);
        x.restore();
        same("the state that was kept", state(x), state(busy()));
        // A snapshot without kites is one, too.
        x = empty();
        due("keep(), nothing flies", x.keep(), 0);
        x.fly(0, 1);
        due("restore(), nothing flew", x.restore(), 0);
        due("count(0)", x.count(0), 0);
        due("undo()", x.undo(), 1);
        due("count(0)", x.count(0), 1);
    }

    private static void restoreReturns() {
        sentence("16", "Returns how many kites there are then; NONE if there is no snapshot.");
        Start[] starts = {Bench::empty, () -> stack(0, 1), () -> stack(0, 12), () -> undone(stack(0, 1), 1)};
        for (Start start : starts) {
            unchanged("restore(), nothing was kept", start, KiteRegisters::restore, NONE);
        }
        for (int kites = 0; kites <= 12; kites++) {
            KiteRegisters x = stack(3, kites);
            x.keep();
            if (kites == 12) {
                x.takeDown(5);
            } else {
                x.fly(1, 1);
            }
            due("restore() of " + kites, x.restore(), kites);
            due("count(0)", x.count(0), kites);
        }
        // The snapshot was taken of the state that is: restoring it is an act still.
        Start same = () -> {
            KiteRegisters x = busy();
            x.keep();
            return x;
        };
        act("restore() of the same state", same, KiteRegisters::restore, 5);
    }

    private static void restoreStays() {
        sentence("16", "Restores the state of the snapshot, which stays. This is an act.");
        KiteRegisters x = act("restore()", Bench::busy, KiteRegisters::restore, 5);
        due("kite(2, 5), as it was kept", x.kite(2, 5), 1);
        due("count(1), as it was kept", x.count(1), 0);
        for (int i = 0; i < 6; i++) {
            x.beat(1);
            x.read(2);
            x.takeDown(0);
            due("restore(), again", x.restore(), 5);
            due("count(1), again", x.count(1), 0);
            due("kite(2, 4), again", x.kite(2, 4), 3);
            due("count(11), again", x.count(11), 4);
        }
    }

    private static void oneSnapshot() {
        sentence("15 16", "There is one snapshot, empty at first.");
        KiteRegisters x = empty();
        due("restore(), at first", x.restore(), NONE);
        x.fly(0, 1);
        due("restore(), before keep()", x.restore(), NONE);
        due("keep()", x.keep(), 1);
        due("restore(), behind keep()", x.restore(), 1);
        // undo() does not take it away, nor bring an earlier one back.
        undone(x, 4);
        due("count(0)", x.count(0), 0);
        due("restore(), undone", x.restore(), 1);
        x.undo();
        due("keep(), nothing flies", x.keep(), 0);
        x.fly(0, 1);
        x.undo();
        due("restore(), the later one", x.restore(), 0);
    }

    private static void stateIsEverythingBut() {
        sentence("14 16", "A state is everything but the text, the history, the snapshot and the latest stop.");
        // Each part of a state comes back with undo(), and with restore(), in one step.
        KiteRegisters was = busy();
        KiteRegisters x = busy();
        x.keep();
        String all = "fly 3 9;read 0;read 1;write 4 -1;wind 2 7;beat 9;read 5;beat 2";
        due("perform()", performed(x, all), 8);
        due("undo()", x.undo(), 3);
        same("undo()", state(x), state(was));
        x = busy();
        x.keep();
        performed(x, all);
        x.set(0, 70);
        x.set(1, 7);
        x.takeDown(2);
        x.move(3, 3);
        due("restore()", x.restore(), 5);
        same("restore()", state(x), state(was));
        // The text, the snapshot and the latest stop are as they were; the history is not the state's.
        due("count(12)", x.count(12), all.length());
        due("stopped(0)", x.stopped(0), 1);
        due("stopped(1)", x.stopped(1), UNKNOWN);
        due("count(11)", x.count(11), 4);
        performed(x, "fly 0 1;fly 0 1;read 11");
        x.undo();
        due("stopped(0), undone", x.stopped(0), 2);
        x.restore();
        due("stopped(0), restored", x.stopped(0), 2);
    }

    // ---- errors

    private static void constants() {
        sentence("2 4 8 9 12", "Errors are reported by the constants below.");
        sentence("2 4 8 9", "The constants: `UNKNOWN = -10001`: There is no such kite, string, beat or setting.");
        due("UNKNOWN", KiteRegisters.UNKNOWN, -10001);
        due("no such kite", busy().read(5), -10001);
        due("no such string", busy().fly(4, 1), -10001);
        due("no such beat", busy().wind(8, 1), -10001);
        due("no such setting", busy().set(2, 5), -10001);
        sentence("2 8", "`BAD_VALUE = -10002`: Another argument is out of range.");
        due("BAD_VALUE", KiteRegisters.BAD_VALUE, -10002);
        due("a number that is out of range", busy().fly(0, 1000), -10002);
        due("a wind that is out of range", busy().wind(0, 10), -10002);
        sentence("2", "`FULL = -10003`: There is no more room.");
        due("FULL", KiteRegisters.FULL, -10003);
        due("the 13th kite", full().fly(0, 1), -10003);
        sentence("12", "`NOT_POSSIBLE = -10004`: This is not possible.");
        due("NOT_POSSIBLE", KiteRegisters.NOT_POSSIBLE, -10004);
        due("a text that is stopped", performed(busy(), "read 9"), -10004);
        sentence("14", "`NONE = -10005`: There is no such thing; not an error.");
        due("NONE", KiteRegisters.NONE, -10005);
        due("nothing to undo", empty().undo(), -10005);
    }

    private static void noneOnlyIfNoErrorApplies() {
        sentence("6 8 9 13 17 18 24", "NONE is no error; it is returned only if no error applies.");
        unchanged("move(2, 0), no such kite", () -> without(busy(), 2), x -> x.move(2, 0), UNKNOWN);
        unchanged("wind(8, 2)", Bench::empty, x -> x.wind(8, 2), UNKNOWN);
        unchanged("set(2, 30)", Bench::empty, x -> x.set(2, 30), UNKNOWN);
        unchanged("stopped(2)", Bench::empty, x -> x.stopped(2), BAD_VALUE);
        unchanged("kite(0, 7)", Bench::empty, x -> x.kite(0, 7), UNKNOWN);
        unchanged("string(4, 2)", Bench::empty, x -> x.string(4, 2), UNKNOWN);
        Start still = () -> {
            KiteRegisters x = busy();
            x.set(1, 0);
            return x;
        };
        unchanged("downIn(0, 9)", still, x -> x.downIn(0, 9), NONE);
        unchanged("downIn(0, -1)", still, x -> x.downIn(0, -1), BAD_VALUE);
        unchanged("downIn(5, 9)", still, x -> x.downIn(5, 9), UNKNOWN);
        sentence("12", "NONE is no error; it is returned only if no error applies.");
        due("perform() of what does nothing, and of what is stopped", performed(busy(), "wind 0 9;read 9"), NOT_POSSIBLE);
        due("perform() of what does nothing", performed(busy(), "wind 0 9"), 1);
    }

    // ---- how long an object is used

    private static void fiveHundredAndTwelveCalls() {
        sentence("1", "An object is used for at most 512 calls after it has been made; what later calls answer is free.");
        for (int calls = 510; calls <= 511; calls++) {
            KiteRegisters x = empty();
            for (int i = 0; i < calls; i++) {
                x.beat(100);
            }
            due("count(10) as call " + (calls + 1), x.count(10), 100 * calls);
            x = empty();
            x.fly(0, 5);
            for (int i = 1; i < calls; i++) {
                x.read(0);
            }
            due("count(3) as call " + (calls + 1), x.count(3), calls - 1);
        }
        KiteRegisters x = empty();
        x.fly(0, 5);
        for (int i = 0; i < 510; i++) {
            due("read(0)", x.read(0), 5);
        }
        // From 0 to 30 by ten readings, cut by the eleventh: 46 times in 510, and on by 4 of them.
        due("count(4) as the last call", x.count(4), 46);
        x = empty();
        x.fly(0, 5);
        for (int i = 0; i < 510; i++) {
            x.write(0, i - 255);
        }
        due("undo() as the last call", x.undo(), 3);
        x = empty();
        for (int i = 0; i < 256; i++) {
            due("fly(0, 1)", x.fly(0, 1), 0);
            due("takeDown(0), at last the last call", x.takeDown(0), 1);
        }
        x = empty();
        for (int i = 0; i < 511; i++) {
            due("keep()", x.keep(), 0);
        }
        due("restore() as the last call", x.restore(), 0);
        // Free as the answers are then, no call may throw.
        for (int i = 0; i < 100; i++) {
            x.fly(i % 4, i);
            x.read(i % 12);
            x.beat(i % 9);
            x.undo();
        }
    }
}
