import java.util.LinkedHashMap;
import java.util.Map;

/** What the tests share: comparing answers, looking at all that an object tells, objects to begin with. */
abstract class Bench {

    static final int UNKNOWN = -10001;
    static final int BAD_VALUE = -10002;
    static final int FULL = -10003;
    static final int NOT_POSSIBLE = -10004;
    static final int NONE = -10005;

    static final int MIN = Integer.MIN_VALUE;
    static final int MAX = Integer.MAX_VALUE;

    /** Makes the same object each time, so that one is asked what another did to it. */
    interface Start {
        KiteRegisters make();
    }

    interface Call {
        int on(KiteRegisters x);
    }

    interface CallOf {
        int on(KiteRegisters x, int argument);
    }

    private static int wrong = 0;
    private static String about = "";

    static void about(String what) {
        about = what;
    }

    static void fail(String what) {
        wrong++;
        System.out.println(about + ": " + what);
    }

    static void due(String call, long got, long want) {
        if (got != want) {
            fail(call + " answered " + got + ", due is " + want);
        }
    }

    static void end(String well) {
        System.out.println(wrong == 0 ? well : wrong + " answers are not as due");
        if (wrong != 0) {
            System.exit(1);
        }
    }

    // ---- texts

    static void enter(KiteRegisters x, String text) {
        x.clearText();
        for (int i = 0; i < text.length(); i++) {
            x.type(text.charAt(i));
        }
    }

    static int performed(KiteRegisters x, String text) {
        enter(x, text);
        return x.perform();
    }

    // ---- all that is told

    /** The state, which is everything but the text, the history, the snapshot and the latest stop. */
    static Map<String, Integer> state(KiteRegisters x) {
        Map<String, Integer> all = new LinkedHashMap<>();
        for (int k = 0; k < 12; k++) {
            all.put("kite(" + k + ", 0)", x.kite(k, 0));
            if (x.kite(k, 0) != UNKNOWN) {
                putKite(all, x, k);
            }
        }
        for (int s = 0; s < 4; s++) {
            for (int w = 0; w <= 5; w++) {
                all.put("string(" + s + ", " + w + ")", x.string(s, w));
            }
            all.put("drawn(" + s + ", 0)", x.drawn(s, 0));
        }
        for (int b = 0; b < 8; b++) {
            all.put("windOf(" + b + ")", x.windOf(b));
        }
        for (int w = 0; w <= 10; w++) {
            all.put("count(" + w + ")", x.count(w));
        }
        all.put("safeWind()", x.safeWind());
        all.put("calmest()", x.calmest());
        return all;
    }

    private static void putKite(Map<String, Integer> all, KiteRegisters x, int k) {
        for (int w = 1; w <= 8; w++) {
            all.put("kite(" + k + ", " + w + ")", x.kite(k, w));
        }
        for (int w = 0; w <= 3; w++) {
            all.put("ifRead(" + k + ", " + w + ")", x.ifRead(k, w));
        }
        all.put("share(" + k + ")", x.share(k));
        all.put("readsToCut(" + k + ")", x.readsToCut(k));
        all.put("downIn(" + k + ", 0)", x.downIn(k, 0));
    }

    static Map<String, Integer> everything(KiteRegisters x) {
        Map<String, Integer> all = state(x);
        all.put("count(11)", x.count(11));
        all.put("count(12)", x.count(12));
        all.put("stopped(0)", x.stopped(0));
        all.put("stopped(1)", x.stopped(1));
        return all;
    }

    static void same(String what, Map<String, Integer> got, Map<String, Integer> want) {
        for (String call : want.keySet()) {
            if (!want.get(call).equals(got.get(call))) {
                fail(what + ": " + call + " answered " + got.get(call) + ", due is " + want.get(call));
            }
        }
        if (got.size() != want.size()) {
            fail(what + ": told are " + got.keySet() + ", due are " + want.keySet());
        }
    }

    // ---- what a call leaves behind

    /** The call answers what is due and changes nothing: not the state, nor what is told only by later calls. */
    static void unchanged(String name, Start start, Call call, int want) {
        due(name, call.on(start.make()), want);
        for (int undone = 0; undone <= 4; undone++) {
            Map<String, Integer> was = everything(undone(start.make(), undone));
            same(name + ", then undo() " + undone + " times", everything(undone(called(start, call), undone)), was);
        }
        laterCall(name, "restore()", start, call, KiteRegisters::restore);
        laterCall(name, "perform()", start, call, KiteRegisters::perform);
        laterCall(name, "clearText()", start, call, KiteRegisters::clearText);
    }

    private static void laterCall(String name, String later, Start start, Call call, Call then) {
        KiteRegisters was = start.make();
        KiteRegisters is = called(start, call);
        due(name + ", then " + later, then.on(is), then.on(was));
        same(name + ", then " + later, everything(is), everything(was));
    }

    /** The call answers what is due and is one act: it records the state that was before it. */
    static KiteRegisters act(String name, Start start, Call call, int want) {
        KiteRegisters x = start.make();
        int states = x.count(11);
        int after = Math.min(states + 1, 4);
        due(name, call.on(x), want);
        due("count(11) behind " + name, x.count(11), after);
        for (int undone = 0; undone < after; undone++) {
            Map<String, Integer> was = state(undone(start.make(), undone));
            same(name + ", then undo() " + (undone + 1) + " times", state(undone(called(start, call), undone + 1)), was);
        }
        outsideTheState(name, start, call);
        return called(start, call);
    }

    private static void outsideTheState(String name, Start start, Call call) {
        KiteRegisters was = start.make();
        KiteRegisters is = called(start, call);
        for (int w = 0; w <= 1; w++) {
            due("stopped(" + w + ") behind " + name, is.stopped(w), was.stopped(w));
        }
        due("restore() behind " + name, is.restore(), was.restore());
        if (was.restore() != NONE) {
            same(name + ", then restore()", state(is), state(was));
        }
        due("clearText() behind " + name, is.clearText(), was.clearText());
    }

    private static KiteRegisters called(Start start, Call call) {
        KiteRegisters x = start.make();
        call.on(x);
        return x;
    }

    private static KiteRegisters undone(KiteRegisters x, int times) {
        for (int i = 0; i < times; i++) {
            x.undo();
        }
        return x;
    }

    // ---- objects to begin with

    static KiteRegisters empty() {
        return new KiteRegisters();
    }

    /**
     * Nothing in it is as at first. At the end: kite 0 carries 11 on string 0 at 10; kite 1 carries -99 on 0 at 1,
     * fresh; kite 2 carries 33 on 0 at 0, read 3 times and cut once, from string 3; kite 3 carries 44 on 2 at 0;
     * kite 4 carries 0 on 1 at 4, fresh; string 3 is empty; the beat is 1, with the wind 3; four states are kept.
     */
    static KiteRegisters busy() {
        KiteRegisters x = new KiteRegisters();
        x.set(0, 20);
        x.set(1, 2);
        x.fly(0, 11);
        x.fly(0, -22);
        x.fly(3, 33);
        x.fly(3, 44);
        x.fly(1, 0);
        x.wind(0, 9);
        x.read(0);
        x.read(2);
        x.read(2);
        x.read(2);
        x.keep();
        x.beat(1);
        x.wind(1, 3);
        x.read(4);
        x.write(1, -99);
        performed(x, "fly 2 5;read 9");
        enter(x, "fly 2 5;beat 3");
        x.move(3, 2);
        return x;
    }

    /** Twelve kites: k carries 10 * k on the string k % 4 at the height k / 4. The snapshot has six of them. */
    static KiteRegisters full() {
        KiteRegisters x = new KiteRegisters();
        for (int k = 0; k < 12; k++) {
            x.fly(k % 4, 10 * k);
            if (k == 5) {
                x.keep();
            }
        }
        enter(x, "read 0;beat 1");
        return x;
    }

    /** So many kites, all on one string: k carries k at the height k. */
    static KiteRegisters stack(int string, int kites) {
        KiteRegisters x = new KiteRegisters();
        for (int k = 0; k < kites; k++) {
            x.fly(string, k);
        }
        return x;
    }

    static KiteRegisters without(KiteRegisters x, int kite) {
        x.takeDown(kite);
        return x;
    }

    /** Reads a kite that has the way free until it is at the height, which is no less than its own and 1. */
    static void lift(KiteRegisters x, int kite, int height) {
        int beat = x.count(1);
        for (int i = 0; i < 20 && x.kite(kite, 2) < height; i++) {
            x.wind(beat, Math.min(9, height - x.kite(kite, 2) - 1));
            x.read(kite);
        }
    }
}
