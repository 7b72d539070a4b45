import java.util.ArrayDeque;
import java.util.ArrayList;
import java.util.Arrays;
import java.util.Comparator;
import java.util.List;
import java.util.Random;
import java.util.regex.Matcher;
import java.util.regex.Pattern;

/**
 * Long runs of calls, the same in each run of this test, against a second program that is written
 * another way: what would happen is found by doing it on a copy, and the fault of a text by a pattern.
 */
public final class ReferenceTest {

    private static final int UNKNOWN = -10001;
    private static final int BAD_VALUE = -10002;
    private static final int FULL = -10003;
    private static final int NOT_POSSIBLE = -10004;
    private static final int NONE = -10005;

    private static final int RUNS = 1500;
    private static final int CALLS = 512;

    private static final class Kite {
        int id;
        int number;
        int string;
        int height;
        boolean fresh;
        int reads;
        int cuts;

        Kite copy() {
            Kite k = new Kite();
            k.id = id;
            k.number = number;
            k.string = string;
            k.height = height;
            k.fresh = fresh;
            k.reads = reads;
            k.cuts = cuts;
            return k;
        }
    }

    private static final class World {
        List<Kite> kites = new ArrayList<>();
        int[] winds = {2, 2, 2, 2, 2, 2, 2, 2};
        int[] stringCuts = new int[4];
        int beat;
        int beats;
        int reads;
        int cuts;
        int cut = 30;
        int sink = 1;

        World copy() {
            World w = new World();
            for (Kite k : kites) {
                w.kites.add(k.copy());
            }
            w.winds = winds.clone();
            w.stringCuts = stringCuts.clone();
            w.beat = beat;
            w.beats = beats;
            w.reads = reads;
            w.cuts = cuts;
            w.cut = cut;
            w.sink = sink;
            return w;
        }

        Kite find(int id) {
            return kites.stream().filter(k -> k.id == id).findFirst().orElse(null);
        }

        /** The kites of a string, from the lowest on. */
        List<Kite> on(int string) {
            List<Kite> all = new ArrayList<>(kites.stream().filter(k -> k.string == string).toList());
            all.sort(Comparator.comparingInt(k -> k.height));
            return all;
        }

        void land(Kite kite, int string, int height) {
            kites.remove(kite);
            int h = height;
            for (Kite other : on(string)) {
                if (other.height == h) {
                    h++;
                }
            }
            kite.string = string;
            kite.height = h;
            kites.add(kite);
        }

        int fly(int string, int number) {
            if (string < 0 || string > 3) {
                return UNKNOWN;
            }
            if (Math.abs((long) number) > 999) {
                return BAD_VALUE;
            }
            if (kites.size() == 12) {
                return FULL;
            }
            int id = 0;
            while (find(id) != null) {
                id++;
            }
            Kite k = new Kite();
            k.id = id;
            k.number = number;
            land(k, string, 0);
            return id;
        }

        int takeDown(int id) {
            Kite k = find(id);
            if (k == null) {
                return UNKNOWN;
            }
            kites.remove(k);
            return k.number;
        }

        int read(int id) {
            Kite k = find(id);
            if (k == null) {
                return UNKNOWN;
            }
            land(k, k.string, k.height + winds[beat] + 1);
            if (k.height > cut) {
                stringCuts[k.string]++;
                cuts++;
                k.cuts++;
                land(k, k.string == 3 ? 0 : k.string + 1, 0);
            }
            k.fresh = true;
            k.reads++;
            reads++;
            return k.number;
        }

        int write(int id, int number) {
            Kite k = find(id);
            if (k == null) {
                return UNKNOWN;
            }
            if (Math.abs((long) number) > 999) {
                return BAD_VALUE;
            }
            int old = k.number;
            k.number = number;
            k.fresh = true;
            return old;
        }

        int move(int id, int string) {
            Kite k = find(id);
            if (k == null || string < 0 || string > 3) {
                return UNKNOWN;
            }
            if (k.string == string) {
                return NONE;
            }
            land(k, string, k.height);
            return k.height;
        }

        void oneBeat() {
            for (int s = 0; s < 4; s++) {
                Kite below = null;
                for (Kite k : on(s)) {
                    // Step by step, so that nothing is gone through.
                    for (int i = 0; i < sink && !k.fresh; i++) {
                        if (k.height > 0 && (below == null || below.height != k.height - 1)) {
                            k.height--;
                        }
                    }
                    below = k;
                }
            }
            kites.forEach(k -> k.fresh = false);
            beats++;
            beat = beat == 7 ? 0 : beat + 1;
        }

        int beat(int n) {
            if (n < 1 || n > 100) {
                return BAD_VALUE;
            }
            for (int i = 0; i < n; i++) {
                oneBeat();
            }
            return beat;
        }

        int wind(int b, int wind) {
            if (b < 0 || b > 7) {
                return UNKNOWN;
            }
            if (wind < 0 || wind > 9) {
                return BAD_VALUE;
            }
            int old = winds[b];
            winds[b] = wind;
            return old == wind ? NONE : old;
        }

        int set(int which, int value) {
            if (which == 0) {
                if (value < 5 || value > 80) {
                    return BAD_VALUE;
                }
                int old = cut;
                cut = value;
                return old == value ? NONE : old;
            }
            if (which == 1) {
                if (value < 0 || value > 9) {
                    return BAD_VALUE;
                }
                int old = sink;
                sink = value;
                return old == value ? NONE : old;
            }
            return UNKNOWN;
        }

        int kite(int id, int what) {
            Kite k = find(id);
            if (k == null) {
                return UNKNOWN;
            }
            List<Kite> all = on(k.string);
            int place = all.indexOf(k);
            return switch (what) {
                case 0 -> k.number;
                case 1 -> k.string;
                case 2 -> k.height;
                case 3 -> k.fresh ? 1 : 0;
                case 4 -> k.reads;
                case 5 -> k.cuts;
                case 6 -> all.size() - 1 - place;
                case 7 -> place + 1 < all.size() ? all.get(place + 1).id : NONE;
                case 8 -> place > 0 ? all.get(place - 1).id : NONE;
                default -> BAD_VALUE;
            };
        }

        int string(int s, int what) {
            if (s < 0 || s > 3) {
                return UNKNOWN;
            }
            List<Kite> all = on(s);
            return switch (what) {
                case 0 -> all.size();
                case 1 -> weights(all);
                case 2 -> all.isEmpty() ? NONE : all.get(all.size() - 1).id;
                case 3 -> all.isEmpty() ? NONE : all.get(0).id;
                case 4 -> all.stream().mapToInt(k -> k.number).sum();
                case 5 -> stringCuts[s];
                default -> BAD_VALUE;
            };
        }

        static int weights(List<Kite> all) {
            return all.stream().mapToInt(k -> k.height + 1).sum();
        }

        int drawn(int s, int point) {
            if (s < 0 || s > 3) {
                return UNKNOWN;
            }
            List<Integer> laid = new ArrayList<>();
            for (int id = 0; id < 12; id++) {
                Kite k = find(id);
                for (int i = 0; k != null && k.string == s && i <= k.height; i++) {
                    laid.add(id);
                }
            }
            return point < 0 || point >= laid.size() ? BAD_VALUE : laid.get(point);
        }

        int share(int id) {
            Kite k = find(id);
            return k == null ? UNKNOWN : (k.height + 1) * 1000 / weights(on(k.string));
        }

        int ifRead(int id, int what) {
            Kite was = find(id);
            if (was == null) {
                return UNKNOWN;
            }
            World w = copy();
            w.read(id);
            Kite is = w.find(id);
            boolean cutOff = is.cuts > was.cuts;
            int passed = 0;
            for (Kite k : on(was.string)) {
                if (!cutOff && k.height > was.height && k.height < is.height) {
                    passed++;
                }
            }
            return switch (what) {
                case 0 -> is.string;
                case 1 -> is.height;
                case 2 -> cutOff ? 1 : 0;
                case 3 -> passed;
                default -> BAD_VALUE;
            };
        }

        int readsToCut(int id) {
            Kite was = find(id);
            if (was == null) {
                return UNKNOWN;
            }
            World w = copy();
            int n = 0;
            while (w.find(id).cuts == was.cuts) {
                w.read(id);
                n++;
            }
            return n;
        }

        int downIn(int id, int height) {
            if (find(id) == null) {
                return UNKNOWN;
            }
            if (height < 0 || height > 99) {
                return BAD_VALUE;
            }
            World w = copy();
            for (int n = 0; n <= 200; n++) {
                if (w.find(id).height <= height) {
                    return n;
                }
                w.oneBeat();
            }
            return NONE;
        }

        int safeWind() {
            int best = NONE;
            for (int wind = 0; wind <= 9; wind++) {
                boolean safe = true;
                for (Kite k : kites) {
                    World w = copy();
                    Arrays.fill(w.winds, wind);
                    w.read(k.id);
                    safe &= w.cuts == cuts;
                }
                best = safe ? wind : best;
            }
            return best;
        }

        int calmest() {
            List<int[]> all = new ArrayList<>();
            for (int s = 0; s < 4; s++) {
                World w = copy();
                Kite k = new Kite();
                k.id = 99;
                w.land(k, s, 0);
                all.add(new int[] {k.height, weights(on(s)), s});
            }
            all.sort(Arrays::compare);
            return all.get(0)[2];
        }

        int count(int what) {
            return switch (what) {
                case 0 -> kites.size();
                case 1 -> beat;
                case 2 -> winds[beat];
                case 3 -> reads;
                case 4 -> cuts;
                case 5 -> (int) kites.stream().filter(k -> k.fresh).count();
                case 6 -> kites.stream().mapToInt(k -> k.height).max().orElse(0);
                case 7 -> weights(kites);
                case 8 -> cut;
                case 9 -> sink;
                case 10 -> beats;
                default -> BAD_VALUE;
            };
        }
    }

    /** The second program. */
    private static final class Reference {
        private static final String NUMBER = "(?:0|-?[1-9][0-9]{0,2})";
        private static final String COMMAND = "(?:fly [0-3] " + NUMBER + "|read (?:[0-9]|1[01])|write (?:[0-9]|1[01]) "
                + NUMBER + "|beat (?:[1-9]|1[0-9]|20)|wind [0-7] [0-9])";
        private static final Pattern TEXT = Pattern.compile(COMMAND + "(?:;" + COMMAND + ")*");

        World world = new World();
        World snapshot;
        final ArrayDeque<World> history = new ArrayDeque<>();
        String text = "";
        int stopCommand = NONE;
        int stopError = NONE;

        int record(World before, int answer) {
            if (answer > UNKNOWN) {
                history.addLast(before);
                if (history.size() > 4) {
                    history.removeFirst();
                }
            } else {
                world = before;
            }
            return answer;
        }

        int perform() {
            for (int end = 1; end <= text.length(); end++) {
                Matcher m = TEXT.matcher(text.substring(0, end));
                if (!m.matches() && !m.hitEnd()) {
                    return -10100 - (end - 1);
                }
            }
            if (!TEXT.matcher(text).matches()) {
                return -10100 - text.length();
            }
            World before = world.copy();
            String[] commands = text.split(";");
            for (int i = 0; i < commands.length; i++) {
                String[] w = commands[i].split(" ");
                int a = Integer.parseInt(w[1]);
                int b = w.length > 2 ? Integer.parseInt(w[2]) : 0;
                int answer = switch (w[0]) {
                    case "fly" -> world.fly(a, b);
                    case "read" -> world.read(a);
                    case "write" -> world.write(a, b);
                    case "beat" -> world.beat(a);
                    default -> world.wind(a, b);
                };
                if (answer <= UNKNOWN && answer != NONE) {
                    world = before;
                    stopCommand = i;
                    stopError = answer;
                    return NOT_POSSIBLE;
                }
            }
            return record(before, commands.length);
        }

        int undo() {
            if (history.isEmpty()) {
                return NONE;
            }
            world = history.removeLast();
            return history.size();
        }

        int keep() {
            snapshot = world.copy();
            return world.kites.size();
        }

        int restore() {
            if (snapshot == null) {
                return NONE;
            }
            World before = world;
            world = snapshot.copy();
            return record(before, world.kites.size());
        }

        int count(int what) {
            return what == 11 ? history.size() : what == 12 ? text.length() : world.count(what);
        }
    }

    private static final Random RANDOM = new Random(20261119L);
    private static final List<String> LOG = new ArrayList<>();
    private static KiteRegisters x;
    private static Reference y;
    private static int calls;
    private static long cutsMet;
    private static long fullMet;
    private static long performedMet;
    private static long stopsMet;

    public static void main(String[] args) {
        for (int run = 0; run < RUNS; run++) {
            x = new KiteRegisters();
            y = new Reference();
            calls = 0;
            LOG.clear();
            int taste = RANDOM.nextInt(4);
            while (calls < CALLS - 90) {
                act(taste);
                for (int i = 0; i < 3; i++) {
                    tell();
                }
            }
            cutsMet += y.world.cuts;
        }
        System.out.println("met: " + cutsMet + " cuts, " + fullMet + " answers FULL, " + performedMet
                + " texts performed, " + stopsMet + " stopped");
        if (cutsMet == 0 || fullMet == 0 || performedMet == 0 || stopsMet == 0) {
            System.out.println("the runs don't meet what they should");
            System.exit(1);
        }
        System.out.println("all answers are as due");
    }

    private static void due(String call, int got, int want) {
        calls++;
        LOG.add(call + " -> " + want);
        if (got != want) {
            LOG.forEach(System.out::println);
            System.out.println(call + " answered " + got + ", due is " + want);
            System.exit(1);
        }
    }

    /** Mostly from 0 up to the most, at times a little outside, rarely far outside. */
    private static int about(int most) {
        int kind = RANDOM.nextInt(200);
        if (kind == 0) {
            return RANDOM.nextInt();
        }
        if (kind == 1) {
            return RANDOM.nextBoolean() ? Integer.MAX_VALUE : Integer.MIN_VALUE;
        }
        if (kind < 10) {
            return RANDOM.nextBoolean() ? -1 : most + 1;
        }
        return RANDOM.nextInt(most + 1);
    }

    private static int aboutNumber() {
        return RANDOM.nextInt(10) == 0 ? about(1000) : RANDOM.nextInt(2001) - 1000;
    }

    private static int aboutKite() {
        if (y.world.kites.isEmpty() || RANDOM.nextInt(20) == 0) {
            return about(11);
        }
        return y.world.kites.get(RANDOM.nextInt(y.world.kites.size())).id;
    }

    private static void act(int taste) {
        int kind = RANDOM.nextInt(taste == 3 ? 100 : 89);
        World before = y.world.copy();
        if (kind < 16) {
            int s = taste == 0 ? 1 : about(3);
            int n = aboutNumber();
            int want = y.record(before, y.world.fly(s, n));
            fullMet += want == FULL ? 1 : 0;
            due("fly(" + s + ", " + n + ")", x.fly(s, n), want);
        } else if (kind < 20) {
            int k = aboutKite();
            due("takeDown(" + k + ")", x.takeDown(k), y.record(before, y.world.takeDown(k)));
        } else if (kind < 50) {
            int k = aboutKite();
            due("read(" + k + ")", x.read(k), y.record(before, y.world.read(k)));
        } else if (kind < 55) {
            int k = aboutKite();
            int n = aboutNumber();
            due("write(" + k + ", " + n + ")", x.write(k, n), y.record(before, y.world.write(k, n)));
        } else if (kind < 62) {
            int k = aboutKite();
            int s = about(3);
            due("move(" + k + ", " + s + ")", x.move(k, s), y.record(before, y.world.move(k, s)));
        } else if (kind < 68) {
            int n = RANDOM.nextInt(5) == 0 ? about(100) : RANDOM.nextInt(4);
            due("beat(" + n + ")", x.beat(n), y.record(before, y.world.beat(n)));
        } else if (kind < 74) {
            int b = RANDOM.nextBoolean() ? y.world.beat : about(7);
            int w = taste == 1 ? RANDOM.nextInt(2) : about(9);
            due("wind(" + b + ", " + w + ")", x.wind(b, w), y.record(before, y.world.wind(b, w)));
        } else if (kind < 78) {
            int which = about(1);
            int value = which == 1 ? about(9) : taste == 2 ? 5 + RANDOM.nextInt(9) : about(81);
            due("set(" + which + ", " + value + ")", x.set(which, value), y.record(before, y.world.set(which, value)));
        } else if (kind < 84) {
            text();
        } else if (kind < 87 || kind >= 91 && kind < 96) {
            due("undo()", x.undo(), y.undo());
        } else if (kind == 87 || kind > 97) {
            due("keep()", x.keep(), y.keep());
        } else {
            due("restore()", x.restore(), y.restore());
        }
    }

    private static void text() {
        due("clearText()", x.clearText(), y.text.length());
        y.text = "";
        String text = madeText();
        for (int i = 0; i < text.length() && calls < CALLS - 20; i++) {
            int want = y.text.length() == 80 ? FULL : y.text.length() + 1;
            y.text += want == FULL ? "" : text.charAt(i);
            due("type((char) " + (int) text.charAt(i) + ")", x.type(text.charAt(i)), want);
        }
        for (int i = 0; i < 2; i++) {
            int want = y.perform();
            performedMet += want > 0 ? 1 : 0;
            stopsMet += want == NOT_POSSIBLE ? 1 : 0;
            due("perform() of '" + y.text + "'", x.perform(), want);
            due("stopped(0)", x.stopped(0), y.stopCommand);
            due("stopped(1)", x.stopped(1), y.stopError);
        }
    }

    private static String madeText() {
        StringBuilder made = new StringBuilder();
        int n = 1 + RANDOM.nextInt(RANDOM.nextInt(4) == 0 ? 12 : 3);
        for (int i = 0; i < n; i++) {
            made.append(i == 0 ? "" : ";").append(madeCommand());
        }
        if (RANDOM.nextInt(3) == 0) {
            String signs = "flyreadwitbn 0123456789-;;  \u0000\u00e9\u0130\u2003";
            int place = RANDOM.nextInt(made.length());
            char sign = signs.charAt(RANDOM.nextInt(signs.length()));
            switch (RANDOM.nextInt(4)) {
                case 0 -> made.setCharAt(place, sign);
                case 1 -> made.insert(place, sign);
                case 2 -> made.deleteCharAt(place);
                default -> made.setLength(place);
            }
        }
        return made.toString();
    }

    private static String madeCommand() {
        boolean sound = RANDOM.nextInt(10) != 0;
        int k = sound ? aboutKite() : RANDOM.nextInt(25) - 2;
        int n = sound ? RANDOM.nextInt(1999) - 999 : RANDOM.nextInt(24000) - 12000;
        return switch (RANDOM.nextInt(6)) {
            case 0 -> "fly " + (sound ? RANDOM.nextInt(4) : RANDOM.nextInt(8) - 2) + " " + n;
            case 1, 2 -> "read " + k;
            case 3 -> "write " + k + " " + n;
            case 4 -> "beat " + (sound ? 1 + RANDOM.nextInt(20) : RANDOM.nextInt(40) - 3);
            default -> "wind " + (sound ? RANDOM.nextInt(8) : RANDOM.nextInt(12) - 2) + " "
                    + (sound ? RANDOM.nextInt(10) : RANDOM.nextInt(15) - 2);
        };
    }

    private static void tell() {
        World w = y.world;
        int k = aboutKite();
        int s = about(3);
        switch (RANDOM.nextInt(13)) {
            case 0, 1 -> {
                int what = about(8);
                due("kite(" + k + ", " + what + ")", x.kite(k, what), w.kite(k, what));
            }
            case 2 -> {
                int what = about(5);
                due("string(" + s + ", " + what + ")", x.string(s, what), w.string(s, what));
            }
            case 3 -> {
                int point = about(World.weights(w.on(s)));
                due("drawn(" + s + ", " + point + ")", x.drawn(s, point), w.drawn(s, point));
            }
            case 4 -> due("share(" + k + ")", x.share(k), w.share(k));
            case 5 -> {
                int b = about(7);
                due("windOf(" + b + ")", x.windOf(b), b < 0 || b > 7 ? UNKNOWN : w.winds[b]);
            }
            case 6, 7 -> {
                int what = about(3);
                due("ifRead(" + k + ", " + what + ")", x.ifRead(k, what), w.ifRead(k, what));
            }
            case 8 -> due("readsToCut(" + k + ")", x.readsToCut(k), w.readsToCut(k));
            case 9 -> {
                int height = RANDOM.nextInt(3) == 0 ? about(99) : RANDOM.nextInt(12);
                due("downIn(" + k + ", " + height + ")", x.downIn(k, height), w.downIn(k, height));
            }
            case 10 -> due("safeWind()", x.safeWind(), w.safeWind());
            case 11 -> due("calmest()", x.calmest(), w.calmest());
            default -> {
                int what = about(12);
                due("count(" + what + ")", x.count(what), y.count(what));
            }
        }
    }
}
