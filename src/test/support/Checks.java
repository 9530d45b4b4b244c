import java.util.ArrayList;
import java.util.List;
import java.util.Set;
import java.util.TreeSet;
import java.util.function.Supplier;
import java.util.function.ToLongFunction;

/** What the tests share by extending it: a due answer, a town made ready, a refusal that changes nothing. */
abstract class Checks {
    static final int NONE = -1, UNKNOWN = -101, OUTSIDE = -102, STATE = -103, FULL = -104;
    static final int MIN = Integer.MIN_VALUE;
    static final int MAX = Integer.MAX_VALUE;
    /** A house of each kind; dues are worked out by hand from these. */
    static final String STREET = "h215,w533,l722,m914,i611";
    static final String SIX = "h011,m199,i255,w312,l421,h999";

    private static final Set<Integer> promises = new TreeSet<>();
    private static int promise;
    private static String sentence = "";
    private static int checks;
    private static int wrong;

    /** A call with one number. */
    interface ByNumber {
        long on(KeyOnStreet x, int number);
    }

    /** The checks that follow test this sentence of the document. */
    static void says(int ofPromise, String words) {
        promise = ofPromise;
        sentence = words;
    }

    static void due(String call, long got, long want) {
        promises.add(promise);
        checks++;
        if (got != want) {
            wrong++;
            System.out.println("promise " + promise + " (" + sentence + "): " + call + " answered " + got + ", due is " + want);
        }
    }

    /** Ends the test; each promise from the first to the last must have been looked at. */
    static void end(int first, int last) {
        for (int i = first; i <= last; i++) {
            if (!promises.contains(i)) {
                wrong++;
                System.out.println("promise " + i + " has no check");
            }
        }
        System.out.println(wrong == 0 ? checks + " answers are as due" : wrong + " answers are wrong");
        System.exit(wrong == 0 ? 0 : 1);
    }

    static KeyOnStreet write(KeyOnStreet x, String text) {
        for (int i = 0; i < text.length(); i++) {
            x.letter(text.charAt(i));
        }
        return x;
    }

    static KeyOnStreet page(String text) {
        return write(new KeyOnStreet(), text);
    }

    static KeyOnStreet in(String town) {
        KeyOnStreet x = page(town);
        due("town() of " + town, x.town(), (town.length() + 1) / 5);
        return x;
    }

    static KeyOnStreet shutOut(KeyOnStreet x, int... houses) {
        for (int house : houses) {
            x.shut(house, true);
        }
        return x;
    }

    /** So many minutes more, in steps that pass() takes. */
    static KeyOnStreet later(KeyOnStreet x, int minutes) {
        for (int left = minutes; left > 0; left -= 30) {
            x.pass(Math.min(left, 30));
        }
        return x;
    }

    /**
     * Minute 11 in STREET; the key is at 7, kept by lovers until 15; 0, 4 and 1 are shut out since 0, 8 and 11; an image
     * of minute 8 is kept, two things are seen, one hang() is done, two letters are on the page.
     */
    static KeyOnStreet busy() {
        KeyOnStreet x = shutOut(in(STREET), 0);
        x.night();
        x.pass(3);
        x.shut(1, true);
        x.open(1);
        x.shut(4, true);
        x.image();
        x.shut(2, true);
        x.open(2);
        x.pass(1);
        x.shut(1, true);
        x.see(1, 9, true);
        x.see(0, 4, false);
        x.hang();
        return write(x, "h2");
    }

    /** The call answers so, and what is told of all, then and later, is as if it had not been called. */
    static void refused(String name, Supplier<KeyOnStreet> scene, ToLongFunction<KeyOnStreet> call, int want) {
        KeyOnStreet x = scene.get();
        due(name, call.applyAsLong(x), want);
        like("behind " + name, x, scene.get());
    }

    static void refusedEach(String name, Supplier<KeyOnStreet> scene, ByNumber call, int want, int... numbers) {
        for (int number : numbers) {
            refused(name.replace("#", String.valueOf(number)), scene, x -> call.on(x, number), want);
        }
    }

    /** Both tell the same, whatever is done with them. */
    static void like(String when, KeyOnStreet x, KeyOnStreet y) {
        List<String> names = new ArrayList<>();
        List<Long> got = everything(x, names);
        List<Long> want = everything(y, new ArrayList<>());
        for (int i = 0; i < names.size(); i++) {
            due(when + ": " + names.get(i), got.get(i), want.get(i));
        }
    }

    /** What is seen, kept and written shows only in what comes of it, so this goes on with the object. */
    private static List<Long> everything(KeyOnStreet x, List<String> names) {
        List<Long> told = new ArrayList<>();
        tellNow("at once", x, names, told);
        tell("hang()", x.hang(), names, told);
        tell("letter(104)", x.letter('h'), names, told);
        tell("restore()", x.restore(), names, told);
        tellNow("behind restore()", x, names, told);
        shutOut(x, 5, 4, 3, 2, 1, 0);
        tellNow("with all shut out", x, names, told);
        x.blank();
        write(x, STREET);
        tell("town()", x.town(), names, told);
        tellNow("in another town", x, names, told);
        return told;
    }

    private static void tellNow(String when, KeyOnStreet x, List<String> names, List<Long> told) {
        for (int what = 0; what <= 10; what++) {
            tell(when + " count(" + what + ")", x.count(what), names, told);
        }
        tell(when + " digest()", x.digest(), names, told);
        tell(when + " fault()", x.fault(), names, told);
        tell(when + " twoKeys()", x.twoKeys(), names, told);
        tell(when + " nights(9, 5, 0)", x.nights(9, 5, 0), names, told);
    }

    private static void tell(String name, long answer, List<String> names, List<Long> told) {
        names.add(name);
        told.add(answer);
    }
}
