/** Kites on strings that are registers. The document, DOC.md, says what each call does. */
public final class KiteRegisters {

    public static final int UNKNOWN = -10001;
    public static final int BAD_VALUE = -10002;
    public static final int FULL = -10003;
    public static final int NOT_POSSIBLE = -10004;
    public static final int NONE = -10005;

    private static final int FAULT = -10100;

    private static final int STRINGS = 4;
    private static final int KITES = 12;
    private static final int BEATS = 8;
    private static final int STATES = 4;
    private static final int TEXT = 80;

    private static final int NUMBER_MOST = 999;
    private static final int WIND_MOST = 9;
    private static final int CUT_LEAST = 5;
    private static final int CUT_MOST = 80;
    private static final int SINK_MOST = 9;
    private static final int BEATS_MOST = 100;
    private static final int READS_MOST = 100;
    private static final int HEIGHT_TOLD_MOST = 99;
    private static final int DOWN_MOST = 200;

    private static final int NOWHERE = -1;
    private static final int ABOVE_ALL = 1000000;

    private final Sky sky = new Sky();
    private final Sky before = new Sky();
    private final Sky trial = new Sky();
    private final Sky snapshot = new Sky();
    private boolean hasSnapshot = false;
    private final History history = new History();
    private final Script script = new Script();
    private int stopCommand = NONE;
    private int stopError = NONE;

    public KiteRegisters() {
    }

    // ---- kites

    public int fly(int string, int number) {
        before.copyFrom(sky);
        return recorded(sky.launch(string, number));
    }

    public int takeDown(int kite) {
        before.copyFrom(sky);
        return recorded(sky.remove(kite));
    }

    public int read(int kite) {
        before.copyFrom(sky);
        return recorded(sky.raise(kite));
    }

    public int write(int kite, int number) {
        before.copyFrom(sky);
        return recorded(sky.renumber(kite, number));
    }

    public int move(int kite, int string) {
        before.copyFrom(sky);
        return recorded(sky.shift(kite, string));
    }

    // ---- beats, winds, settings

    public int beat(int beats) {
        before.copyFrom(sky);
        return recorded(sky.passBeats(beats));
    }

    public int wind(int beat, int wind) {
        before.copyFrom(sky);
        return recorded(sky.changeWind(beat, wind));
    }

    public int set(int which, int value) {
        before.copyFrom(sky);
        return recorded(sky.changeSetting(which, value));
    }

    // ---- texts

    public int type(char character) {
        return script.append(character);
    }

    public int clearText() {
        return script.empty();
    }

    public int perform() {
        int fault = script.scan();
        if (fault >= 0) {
            return FAULT - fault;
        }
        before.copyFrom(sky);
        for (int i = 0; i < script.commands; i++) {
            int answer = sky.carryOut(script.verbOf(i), script.firstOf(i), script.secondOf(i));
            if (isError(answer)) {
                sky.copyFrom(before);
                stopCommand = i;
                stopError = answer;
                return NOT_POSSIBLE;
            }
        }
        return recorded(script.commands);
    }

    public int stopped(int what) {
        switch (what) {
            case 0:
                return stopCommand;
            case 1:
                return stopError;
            default:
                return BAD_VALUE;
        }
    }

    // ---- history

    public int undo() {
        return history.takeLatest(sky);
    }

    public int keep() {
        snapshot.copyFrom(sky);
        hasSnapshot = true;
        return sky.kitesInAll();
    }

    public int restore() {
        if (!hasSnapshot) {
            return NONE;
        }
        before.copyFrom(sky);
        sky.copyFrom(snapshot);
        return recorded(sky.kitesInAll());
    }

    // ---- what is told

    public int kite(int kite, int what) {
        return sky.aboutKite(kite, what);
    }

    public int string(int string, int what) {
        return sky.aboutString(string, what);
    }

    public int drawn(int string, int point) {
        return sky.kiteAtPoint(string, point);
    }

    public int share(int kite) {
        return sky.thousandthsOf(kite);
    }

    public int windOf(int beat) {
        return sky.windAt(beat);
    }

    public int ifRead(int kite, int what) {
        return sky.aboutReading(kite, what);
    }

    public int readsToCut(int kite) {
        return sky.readingsUntilCut(kite);
    }

    public int downIn(int kite, int height) {
        trial.copyFrom(sky);
        return trial.sinkUntil(kite, height);
    }

    public int safeWind() {
        return sky.greatestSafeWind();
    }

    public int calmest() {
        return sky.calmestString();
    }

    public int count(int what) {
        switch (what) {
            case 11:
                return history.size;
            case 12:
                return script.length;
            default:
                return sky.aboutAll(what);
        }
    }

    /** Keeps the state that was before an act, once its answer shows that it was one. */
    private int recorded(int answer) {
        if (answer != NONE && !isError(answer)) {
            history.add(before);
        }
        return answer;
    }

    /** All errors are UNKNOWN or less; every number that an act answers is greater. */
    private static boolean isError(int answer) {
        return answer <= UNKNOWN && answer != NONE;
    }

    private static boolean isString(int string) {
        return string >= 0 && string < STRINGS;
    }

    private static boolean isBeat(int beat) {
        return beat >= 0 && beat < BEATS;
    }

    private static boolean isNumber(int number) {
        return number >= -NUMBER_MOST && number <= NUMBER_MOST;
    }

    /** One state: all that undo and a snapshot bring back. */
    private static final class Sky {

        private final int[] numbers = new int[KITES];
        private final int[] strings = new int[KITES];
        private final int[] heights = new int[KITES];
        private final boolean[] fresh = new boolean[KITES];
        private final int[] readings = new int[KITES];
        private final int[] cuts = new int[KITES];
        private final int[] winds = new int[BEATS];
        private final int[] cutsFrom = new int[STRINGS];
        private int beatsSoFar = 0;
        private int readingsSoFar = 0;
        private int cutHeight = 30;
        private int sinking = 1;

        private Sky() {
            for (int k = 0; k < KITES; k++) {
                strings[k] = NOWHERE;
            }
            for (int b = 0; b < BEATS; b++) {
                winds[b] = 2;
            }
        }

        private void copyFrom(Sky other) {
            if (other == null) {
                return;
            }
            for (int k = 0; k < KITES; k++) {
                numbers[k] = other.numbers[k];
                strings[k] = other.strings[k];
                heights[k] = other.heights[k];
                fresh[k] = other.fresh[k];
                readings[k] = other.readings[k];
                cuts[k] = other.cuts[k];
            }
            for (int b = 0; b < BEATS; b++) {
                winds[b] = other.winds[b];
            }
            for (int s = 0; s < STRINGS; s++) {
                cutsFrom[s] = other.cutsFrom[s];
            }
            beatsSoFar = other.beatsSoFar;
            readingsSoFar = other.readingsSoFar;
            cutHeight = other.cutHeight;
            sinking = other.sinking;
        }

        // ---- acts

        private int launch(int string, int number) {
            if (!isString(string)) {
                return UNKNOWN;
            }
            if (!isNumber(number)) {
                return BAD_VALUE;
            }
            for (int k = 0; k < KITES; k++) {
                if (strings[k] == NOWHERE) {
                    // The height first: on its string already, the kite would be in its own way.
                    heights[k] = landing(string, 0);
                    strings[k] = string;
                    numbers[k] = number;
                    fresh[k] = false;
                    readings[k] = 0;
                    cuts[k] = 0;
                    return k;
                }
            }
            return FULL;
        }

        private int remove(int kite) {
            if (!isKite(kite)) {
                return UNKNOWN;
            }
            strings[kite] = NOWHERE;
            return numbers[kite];
        }

        private int raise(int kite) {
            if (!isKite(kite)) {
                return UNKNOWN;
            }
            int string = strings[kite];
            int height = risen(string, heights[kite], windNow());
            if (height > cutHeight) {
                cuts[kite]++;
                countCutFrom(string);
                string = behind(string);
                // Too high again among many kites or not, it is cut only once.
                height = landing(string, 0);
            }
            strings[kite] = string;
            heights[kite] = height;
            fresh[kite] = true;
            readings[kite]++;
            readingsSoFar++;
            return numbers[kite];
        }

        private int renumber(int kite, int number) {
            if (!isKite(kite)) {
                return UNKNOWN;
            }
            if (!isNumber(number)) {
                return BAD_VALUE;
            }
            int previous = numbers[kite];
            numbers[kite] = number;
            fresh[kite] = true;
            return previous;
        }

        private int shift(int kite, int string) {
            if (!isKite(kite) || !isString(string)) {
                return UNKNOWN;
            }
            if (strings[kite] == string) {
                return NONE;
            }
            heights[kite] = landing(string, heights[kite]);
            strings[kite] = string;
            return heights[kite];
        }

        private int passBeats(int beats) {
            if (beats < 1 || beats > BEATS_MOST) {
                return BAD_VALUE;
            }
            for (int i = 0; i < beats; i++) {
                for (int s = 0; s < STRINGS; s++) {
                    sinkString(s);
                }
                endFreshness();
                beatsSoFar++;
            }
            return beatNow();
        }

        private int changeWind(int beat, int wind) {
            if (!isBeat(beat)) {
                return UNKNOWN;
            }
            if (wind < 0 || wind > WIND_MOST) {
                return BAD_VALUE;
            }
            int previous = winds[beat];
            if (previous == wind) {
                return NONE;
            }
            winds[beat] = wind;
            return previous;
        }

        private int changeSetting(int which, int value) {
            switch (which) {
                case 0:
                    return changeCut(value);
                case 1:
                    return changeSinking(value);
                default:
                    return UNKNOWN;
            }
        }

        private int changeCut(int value) {
            if (value < CUT_LEAST || value > CUT_MOST) {
                return BAD_VALUE;
            }
            int previous = cutHeight;
            if (previous == value) {
                return NONE;
            }
            cutHeight = value;
            return previous;
        }

        private int changeSinking(int value) {
            if (value < 0 || value > SINK_MOST) {
                return BAD_VALUE;
            }
            int previous = sinking;
            if (previous == value) {
                return NONE;
            }
            sinking = value;
            return previous;
        }

        private int carryOut(int verb, int first, int second) {
            switch (verb) {
                case Script.FLY:
                    return launch(first, second);
                case Script.READ:
                    return raise(first);
                case Script.WRITE:
                    return renumber(first, second);
                case Script.BEAT:
                    return passBeats(first);
                case Script.WIND:
                    return changeWind(first, second);
                default:
                    return BAD_VALUE;
            }
        }

        // ---- sinking

        /** From the lowest kite on: what sank already is no higher than passed, so it is not met again. */
        private void sinkString(int string) {
            int floor = 0;
            int passed = -1;
            for (int i = 0; i < KITES; i++) {
                int kite = lowestAbove(string, passed);
                if (!isKite(kite)) {
                    return;
                }
                passed = heights[kite];
                if (!fresh[kite]) {
                    heights[kite] = Math.max(floor, passed - sinking);
                }
                floor = heights[kite] + 1;
            }
        }

        private void endFreshness() {
            for (int k = 0; k < KITES; k++) {
                fresh[k] = false;
            }
        }

        /** Changes this state: it is called on a copy alone. The other strings can't touch the kite. */
        private int sinkUntil(int kite, int height) {
            if (!isKite(kite)) {
                return UNKNOWN;
            }
            if (height < 0 || height > HEIGHT_TOLD_MOST) {
                return BAD_VALUE;
            }
            for (int beats = 0; beats <= DOWN_MOST; beats++) {
                if (heights[kite] <= height) {
                    return beats;
                }
                sinkString(strings[kite]);
                endFreshness();
            }
            return NONE;
        }

        // ---- rising and landing

        /** A kite that rises is below all heights that are tried, so it needn't leave its string first. */
        private int risen(int string, int height, int wind) {
            return landing(string, height + wind + 1);
        }

        private int landing(int string, int height) {
            int free = height;
            for (int i = 0; i < KITES && isTaken(string, free); i++) {
                free++;
            }
            return free;
        }

        private boolean isTaken(int string, int height) {
            for (int k = 0; k < KITES; k++) {
                if (strings[k] == string && heights[k] == height) {
                    return true;
                }
            }
            return false;
        }

        private void countCutFrom(int string) {
            if (isString(string)) {
                cutsFrom[string]++;
            }
        }

        private static int behind(int string) {
            return (string + 1) % STRINGS;
        }

        // ---- what is told of one kite

        private boolean isKite(int kite) {
            return kite >= 0 && kite < KITES && strings[kite] != NOWHERE;
        }

        private int aboutKite(int kite, int what) {
            if (!isKite(kite)) {
                return UNKNOWN;
            }
            switch (what) {
                case 0:
                    return numbers[kite];
                case 1:
                    return strings[kite];
                case 2:
                    return heights[kite];
                case 3:
                    return fresh[kite] ? 1 : 0;
                case 4:
                    return readings[kite];
                case 5:
                    return cuts[kite];
                case 6:
                    return kitesBetween(strings[kite], heights[kite], ABOVE_ALL);
                case 7:
                    return lowestAbove(strings[kite], heights[kite]);
                case 8:
                    return highestBelow(strings[kite], heights[kite]);
                default:
                    return BAD_VALUE;
            }
        }

        private int aboutReading(int kite, int what) {
            if (!isKite(kite)) {
                return UNKNOWN;
            }
            int string = strings[kite];
            int height = risen(string, heights[kite], windNow());
            boolean isCut = height > cutHeight;
            switch (what) {
                case 0:
                    return isCut ? behind(string) : string;
                case 1:
                    return isCut ? landing(behind(string), 0) : height;
                case 2:
                    return isCut ? 1 : 0;
                case 3:
                    return isCut ? 0 : kitesBetween(string, heights[kite], height);
                default:
                    return BAD_VALUE;
            }
        }

        /** Each reading lifts a kite by at least 1, so the most that is told is never reached. */
        private int readingsUntilCut(int kite) {
            if (!isKite(kite)) {
                return UNKNOWN;
            }
            int wind = windNow();
            int height = heights[kite];
            for (int reads = 1; reads < READS_MOST; reads++) {
                height = risen(strings[kite], height, wind);
                if (height > cutHeight) {
                    return reads;
                }
            }
            return READS_MOST;
        }

        private int thousandthsOf(int kite) {
            if (!isKite(kite)) {
                return UNKNOWN;
            }
            int all = weightsOn(strings[kite]);
            return all > 0 ? (heights[kite] + 1) * 1000 / all : 0;
        }

        // ---- what is told of one string

        private int aboutString(int string, int what) {
            if (!isString(string)) {
                return UNKNOWN;
            }
            switch (what) {
                case 0:
                    return kitesBetween(string, -1, ABOVE_ALL);
                case 1:
                    return weightsOn(string);
                case 2:
                    return highestBelow(string, ABOVE_ALL);
                case 3:
                    return lowestAbove(string, -1);
                case 4:
                    return numbersOn(string);
                case 5:
                    return cutsFrom[string];
                default:
                    return BAD_VALUE;
            }
        }

        private int kitesBetween(int string, int low, int high) {
            int found = 0;
            for (int k = 0; k < KITES; k++) {
                if (strings[k] == string && heights[k] > low && heights[k] < high) {
                    found++;
                }
            }
            return found;
        }

        private int lowestAbove(int string, int height) {
            int best = NONE;
            int bestHeight = ABOVE_ALL;
            for (int k = 0; k < KITES; k++) {
                if (strings[k] == string && heights[k] > height && heights[k] < bestHeight) {
                    best = k;
                    bestHeight = heights[k];
                }
            }
            return best;
        }

        private int highestBelow(int string, int height) {
            int best = NONE;
            int bestHeight = -1;
            for (int k = 0; k < KITES; k++) {
                if (strings[k] == string && heights[k] < height && heights[k] > bestHeight) {
                    best = k;
                    bestHeight = heights[k];
                }
            }
            return best;
        }

        private int weightsOn(int string) {
            int sum = 0;
            for (int k = 0; k < KITES; k++) {
                if (strings[k] == string) {
                    sum += heights[k] + 1;
                }
            }
            return sum;
        }

        private int numbersOn(int string) {
            int sum = 0;
            for (int k = 0; k < KITES; k++) {
                if (strings[k] == string) {
                    sum += numbers[k];
                }
            }
            return sum;
        }

        private int kiteAtPoint(int string, int point) {
            if (!isString(string)) {
                return UNKNOWN;
            }
            if (point < 0) {
                return BAD_VALUE;
            }
            int end = 0;
            for (int k = 0; k < KITES; k++) {
                if (strings[k] == string) {
                    end += heights[k] + 1;
                    if (point < end) {
                        return k;
                    }
                }
            }
            return BAD_VALUE;
        }

        // ---- what is told of all

        private int beatNow() {
            return Math.floorMod(beatsSoFar, BEATS);
        }

        private int windNow() {
            return windAt(beatNow());
        }

        private int windAt(int beat) {
            return isBeat(beat) ? winds[beat] : UNKNOWN;
        }

        private int greatestSafeWind() {
            for (int wind = WIND_MOST; wind >= 0; wind--) {
                if (isSafe(wind)) {
                    return wind;
                }
            }
            return NONE;
        }

        private boolean isSafe(int wind) {
            for (int k = 0; k < KITES; k++) {
                if (strings[k] != NOWHERE && risen(strings[k], heights[k], wind) > cutHeight) {
                    return false;
                }
            }
            return true;
        }

        private int calmestString() {
            int best = 0;
            for (int s = 1; s < STRINGS; s++) {
                if (isCalmer(s, best)) {
                    best = s;
                }
            }
            return best;
        }

        private boolean isCalmer(int string, int other) {
            int mine = landing(string, 0);
            int its = landing(other, 0);
            return mine < its || mine == its && weightsOn(string) < weightsOn(other);
        }

        private int aboutAll(int what) {
            switch (what) {
                case 0:
                    return kitesInAll();
                case 1:
                    return beatNow();
                case 2:
                    return windNow();
                case 3:
                    return readingsSoFar;
                case 4:
                    return cutsSoFar();
                case 5:
                    return freshKites();
                case 6:
                    return greatestHeight();
                case 7:
                    return weightsInAll();
                case 8:
                    return cutHeight;
                case 9:
                    return sinking;
                case 10:
                    return beatsSoFar;
                default:
                    return BAD_VALUE;
            }
        }

        private int kitesInAll() {
            int found = 0;
            for (int k = 0; k < KITES; k++) {
                if (strings[k] != NOWHERE) {
                    found++;
                }
            }
            return found;
        }

        private int cutsSoFar() {
            int sum = 0;
            for (int s = 0; s < STRINGS; s++) {
                sum += cutsFrom[s];
            }
            return sum;
        }

        private int freshKites() {
            int found = 0;
            for (int k = 0; k < KITES; k++) {
                if (strings[k] != NOWHERE && fresh[k]) {
                    found++;
                }
            }
            return found;
        }

        private int greatestHeight() {
            int greatest = 0;
            for (int k = 0; k < KITES; k++) {
                if (strings[k] != NOWHERE) {
                    greatest = Math.max(greatest, heights[k]);
                }
            }
            return greatest;
        }

        private int weightsInAll() {
            int sum = 0;
            for (int s = 0; s < STRINGS; s++) {
                sum += weightsOn(s);
            }
            return sum;
        }
    }

    /** The latest states, in a ring whose rows are made once and used again. */
    private static final class History {

        private final Sky[] states = new Sky[STATES];
        private int next = 0;
        private int size = 0;

        private History() {
            for (int i = 0; i < STATES; i++) {
                states[i] = new Sky();
            }
        }

        private void add(Sky state) {
            Sky row = rowAt(next);
            if (row == null) {
                return;
            }
            row.copyFrom(state);
            next = (next + 1) % STATES;
            size = Math.min(size + 1, STATES);
        }

        private int takeLatest(Sky target) {
            if (size == 0 || target == null) {
                return NONE;
            }
            next = (next + STATES - 1) % STATES;
            size--;
            target.copyFrom(rowAt(next));
            return size;
        }

        private Sky rowAt(int row) {
            return row >= 0 && row < STATES ? states[row] : null;
        }
    }

    /** The text, and the commands that the latest scan found in it. */
    private static final class Script {

        private static final int FLY = 0;
        private static final int READ = 1;
        private static final int WRITE = 2;
        private static final int BEAT = 3;
        private static final int WIND = 4;
        private static final int VERBS = 5;

        private static final int END = -1;
        private static final int NO_DIGIT = -1;

        private final char[] signs = new char[TEXT];
        private int length = 0;

        // A command has more than one character: there are never more of them than characters.
        private final int[] verbs = new int[TEXT];
        private final int[] firsts = new int[TEXT];
        private final int[] seconds = new int[TEXT];
        private int commands = 0;

        private int place = 0;
        private int verb = FLY;
        private int number = 0;

        private Script() {
        }

        private int append(char sign) {
            if (length < 0 || length >= TEXT) {
                return FULL;
            }
            signs[length] = sign;
            length++;
            return length;
        }

        private int empty() {
            int previous = length;
            length = 0;
            return previous;
        }

        private int verbOf(int command) {
            return isCommand(command) ? verbs[command] : NONE;
        }

        private int firstOf(int command) {
            return isCommand(command) ? firsts[command] : NONE;
        }

        private int secondOf(int command) {
            return isCommand(command) ? seconds[command] : NONE;
        }

        private boolean isCommand(int command) {
            return command >= 0 && command < commands && command < TEXT;
        }

        /** Answers the index of the fault, or NONE. A scan that fails leaves place at the fault. */
        private int scan() {
            place = 0;
            commands = 0;
            for (int i = 0; i < TEXT; i++) {
                if (!scanCommand()) {
                    return place;
                }
                if (signAt(place) == END) {
                    return NONE;
                }
                if (!skip(';')) {
                    return place;
                }
            }
            return place;
        }

        private boolean scanCommand() {
            if (!scanWord()) {
                return false;
            }
            int command = commands;
            if (command < 0 || command >= TEXT) {
                return false;
            }
            verbs[command] = verb;
            if (!scanFirst()) {
                return false;
            }
            firsts[command] = number;
            seconds[command] = 0;
            if (verb != READ && verb != BEAT) {
                if (!scanSecond()) {
                    return false;
                }
                seconds[command] = number;
            }
            commands++;
            return true;
        }

        /** The fault of a wrong word is where it leaves the word that it follows for longest. */
        private boolean scanWord() {
            int longest = 0;
            for (int v = 0; v < VERBS; v++) {
                String word = wordOf(v);
                int alike = charactersAlike(word);
                if (alike == word.length()) {
                    verb = v;
                    place += alike;
                    return true;
                }
                longest = Math.max(longest, alike);
            }
            place += longest;
            return false;
        }

        private int charactersAlike(String word) {
            int alike = 0;
            while (alike < word.length() && signAt(place + alike) == word.charAt(alike)) {
                alike++;
            }
            return alike;
        }

        private static String wordOf(int verb) {
            switch (verb) {
                case FLY:
                    return "fly";
                case READ:
                    return "read";
                case WRITE:
                    return "write";
                case BEAT:
                    return "beat";
                default:
                    return "wind";
            }
        }

        private boolean scanFirst() {
            switch (verb) {
                case FLY:
                    return scanNumber(0, STRINGS - 1);
                case BEAT:
                    return scanNumber(1, 20);
                case WIND:
                    return scanNumber(0, BEATS - 1);
                default:
                    return scanNumber(0, KITES - 1);
            }
        }

        private boolean scanSecond() {
            return verb == WIND ? scanNumber(0, WIND_MOST) : scanNumber(-NUMBER_MOST, NUMBER_MOST);
        }

        /** A blank and a number; stops at the first character that can't belong to the number. */
        private boolean scanNumber(int least, int most) {
            if (!skip(' ')) {
                return false;
            }
            boolean negative = least < 0 && skip('-');
            int limit = negative ? -least : most;
            int value = digitAt(place);
            if (value == NO_DIGIT || value < least || value > limit || negative && value == 0) {
                return false;
            }
            place++;
            // Behind a 0 no digit is allowed, as numbers don't begin with it.
            for (int i = 0; i < TEXT && value != 0; i++) {
                int digit = digitAt(place);
                if (digit == NO_DIGIT || value * 10 + digit > limit) {
                    break;
                }
                value = value * 10 + digit;
                place++;
            }
            number = negative ? -value : value;
            return true;
        }

        private boolean skip(char sign) {
            if (signAt(place) != sign) {
                return false;
            }
            place++;
            return true;
        }

        private int digitAt(int index) {
            int sign = signAt(index);
            return sign >= '0' && sign <= '9' ? sign - '0' : NO_DIGIT;
        }

        private int signAt(int index) {
            return index >= 0 && index < length && index < TEXT ? signs[index] : END;
        }
    }
}
