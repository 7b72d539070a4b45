import java.io.IOException;
import java.util.List;

/** What tests of boundaries share: each names a promise and the sentence of the document that it tests. */
abstract class Boundaries extends Bench {

    private static Document document;

    static void open() throws IOException {
        document = new Document();
    }

    /** The calls that follow test this sentence, which is the promises' own or stands ahead of them. */
    static void sentence(String promises, String words) {
        about("promise " + promises + ", \"" + words + "\"");
        for (String promise : promises.split(" ")) {
            if (!document.name(Integer.parseInt(promise), words)) {
                fail("the document has no such sentence");
            }
        }
    }

    static void order(String promises) {
        sentence(promises, "Where several errors can apply, the order of the @return line is the order of the checks.");
    }

    static void allSentencesAreNamed() {
        about("the document");
        List<String> unnamed = document.unnamed();
        for (String words : unnamed) {
            fail("no test names " + words);
        }
    }

    /** Kites from -1 to 12, and kites that are not there between such that are. */
    static void noSuchKite(String name, CallOf call) {
        for (int kite : new int[] {MIN, -1, 12, 13, MAX}) {
            unknown(name, Bench::full, call, kite);
        }
        for (int kite : new int[] {-1, 5, 11, 12}) {
            unknown(name, Bench::busy, call, kite);
        }
        for (int kite : new int[] {0, 5, 11}) {
            unknown(name, Bench::empty, call, kite);
            unknown(name, () -> without(full(), kite), call, kite);
        }
        for (int kite = 0; kite <= 11; kite++) {
            if (call.on(full(), kite) == UNKNOWN) {
                fail(name + " of kite " + kite + " answered UNKNOWN, and it is there");
            }
            if (kite != 5 && call.on(without(full(), 5), kite) == UNKNOWN) {
                fail(name + " of kite " + kite + " answered UNKNOWN, and it is there without 5");
            }
        }
    }

    /** Arguments outside of a range, each of which is refused. */
    static void unchangedEach(String name, Start start, CallOf call, int want, int... arguments) {
        for (int argument : arguments) {
            unchanged(String.format(name, argument), start, x -> call.on(x, argument), want);
        }
    }

    private static void unknown(String name, Start start, CallOf call, int kite) {
        unchanged(name + " of kite " + kite, start, x -> call.on(x, kite), UNKNOWN);
    }

    /** An argument that chooses what is told: all from low to high are answered, one beside is not. */
    static void whats(String name, Start start, CallOf call, int low, int high) {
        for (int what : new int[] {MIN, low - 2, low - 1, high + 1, high + 2, MAX}) {
            unchanged(name + " with " + what, start, x -> call.on(x, what), BAD_VALUE);
        }
        for (int what = low; what <= high; what++) {
            int chosen = what;
            int answer = call.on(start.make(), what);
            if (answer == BAD_VALUE || answer == UNKNOWN) {
                fail(name + " with " + what + " answered " + answer);
            }
            unchanged(name + " with " + what, start, x -> call.on(x, chosen), answer);
        }
    }
}
