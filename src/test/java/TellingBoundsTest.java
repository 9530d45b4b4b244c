import java.math.BigInteger;
import java.util.ArrayList;
import java.util.List;
import java.util.function.Consumer;
import java.util.function.Supplier;

/** "what is told of all": each boundary that promises 23 to 26 name, and the 512 calls of an object. */
public final class TellingBoundsTest extends Checks {
    public static void main(String[] args) {
        imageWithoutTown();
        imageOfMinutes();
        imageTheLatest();
        restoreNoneKept();
        restoreAnotherTown();
        restoreAllThatIsKept();
        restoreWhatIsNotKept();
        countNumbers();
        countMost();
        countKept();
        count512Calls();
        digestOfNothing();
        digestWraps();
        digestChangesNothing();
        end(23, 26);
    }

    private static void imageWithoutTown() {
        says(23, "STATE: no TOWN");
        refused("image()", KeyOnStreet::new, x -> x.image(), STATE);
        refused("image() with a page that is one", () -> page(STREET), x -> x.image(), STATE);
    }

    private static void imageOfMinutes() {
        says(23, "An IMAGE is kept: the MINUTE");
        due("image() at 0", in(STREET).image(), 0);
        due("image() at 999", later(in(STREET), 999).image(), 999);
        KeyOnStreet x = shutOut(later(in(STREET), 999), 3);
        x.open(3);
        due("image() above 999", x.image(), 1009);
        x.night();
        due("restore() above 999", x.restore(), 1009);
        x = busy();
        x.image();
        KeyOnStreet y = busy();
        for (int what = 0; what <= 10; what++) {
            due("count(" + what + ") behind image()", x.count(what), y.count(what));
        }
        due("digest() behind image()", x.digest(), y.digest());
    }

    private static void imageTheLatest() {
        says(23, "one; the latest");
        KeyOnStreet x = in(STREET);
        due("image()", x.image(), 0);
        x.pass(5);
        due("image() again", x.image(), 5);
        due("image(), nothing was between", x.image(), 5);
        x.pass(5);
        due("restore()", x.restore(), 5);
        due("restore() again", x.restore(), 5);
        x.pass(1);
        due("image()", x.image(), 6);
        x.night();
        due("restore()", x.restore(), 6);
    }

    private static void restoreNoneKept() {
        says(24, "STATE: none was kept");
        refused("restore() without a town", KeyOnStreet::new, x -> x.restore(), STATE);
        refused("restore()", () -> shutOut(in(STREET), 0, 2), x -> x.restore(), STATE);
        Supplier<KeyOnStreet> tooEarly = () -> {
            KeyOnStreet x = page(STREET);
            due("image() without a town", x.image(), STATE);
            x.town();
            return x;
        };
        refused("restore() behind an image() that was refused", tooEarly, x -> x.restore(), STATE);
    }

    private static void restoreAnotherTown() {
        says(24, "STATE: there is another TOWN since");
        for (String town : new String[] {STREET, SIX, "h111,h111,h111"}) {
            Supplier<KeyOnStreet> since = () -> {
                KeyOnStreet x = busy();
                x.blank();
                due("town()", write(x, town).town(), (town.length() + 1) / 5);
                x.pass(2);
                return shutOut(x, 2, 0);
            };
            refused("restore() in " + town, since, x -> x.restore(), STATE);
            KeyOnStreet x = since.get();
            due("image() in " + town, x.image(), 2);
            x.pass(1);
            due("restore() in " + town, x.restore(), 2);
        }
        KeyOnStreet x = busy();
        x.blank();
        due("town() that is refused", x.town(), STATE);
        due("restore()", x.restore(), 8);
    }

    private static void goesBack(String change, Consumer<KeyOnStreet> call) {
        KeyOnStreet x = busy();
        x.image();
        call.accept(x);
        due("restore() behind " + change, x.restore(), 11);
        KeyOnStreet y = busy();
        y.image();
        like("restored behind " + change, x, y);
        // What was done behind the image must not have changed the image itself.
        x = busy();
        x.image();
        x.restore();
        call.accept(x);
        due("restore() again behind " + change, x.restore(), 11);
        y = busy();
        y.image();
        like("restored again behind " + change, x, y);
    }

    private static void restoreAllThatIsKept() {
        says(24, "An IMAGE keeps who is SHUT OUT, since when, who was IN when, how LATE, nights OUT, the KEY, until when it is kept, the MINUTE, what is SEEN");
        goesBack("nothing", x -> { });
        goesBack("shut(3, true)", x -> x.shut(3, true));
        goesBack("shut(0, false)", x -> x.shut(0, false));
        goesBack("shut() anew", x -> {
            x.shut(0, false);
            x.shut(0, true);
        });
        goesBack("lay(7)", x -> x.lay(7));
        goesBack("lay(0)", x -> x.lay(0));
        goesBack("pass(30)", x -> x.pass(30));
        goesBack("open(0)", x -> x.open(0));
        goesBack("open(2)", x -> {
            x.shut(2, true);
            x.open(2);
        });
        goesBack("night()", x -> x.night());
        goesBack("see()", x -> x.see(4, 1, true));
        goesBack("forget()", x -> x.forget());
        goesBack("other things seen", x -> {
            x.forget();
            x.see(4, 1, true);
            x.see(0, 1, true);
        });
        goesBack("all of it", x -> {
            x.night();
            x.open(1);
            x.lay(2);
            x.forget();
            x.pass(1);
        });
    }

    private static void restoreWhatIsNotKept() {
        says(24, "It goes on from the IMAGE (THE PAGE, and how often is counted, are no part of it)");
        KeyOnStreet x = busy();
        x.image();
        x.letter('1');
        x.restore();
        due("count(8), a letter more", x.count(8), 3);
        x.blank();
        x.restore();
        due("count(8), no letter", x.count(8), 0);
        x.hang();
        x.restore();
        due("count(10)", x.count(10), 2);
        due("count(9)", x.count(9), 1);
        due("restore(), still the same image", x.restore(), 11);
    }

    private static void countNumbers() {
        says(25, "0 to 10; OUTSIDE");
        int[] wrong = {MIN, -1, 11, 12, MAX};
        refusedEach("count(#)", Checks::busy, (x, what) -> x.count(what), OUTSIDE, wrong);
        refusedEach("count(#) without a town", KeyOnStreet::new, (x, what) -> x.count(what), OUTSIDE, wrong);
        int[] told = {5, 3, 7, 11, 15, 4, 5, 2, 2, 1, 1};
        KeyOnStreet x = busy();
        for (int what = 0; what <= 10; what++) {
            due("count(" + what + ")", x.count(what), told[what]);
        }
        like("behind count()", x, busy());
    }

    private static void countMost() {
        says(25, "How many: the most of each that is bounded");
        KeyOnStreet x = later(shutOut(in(SIX), 0, 1, 2, 3, 4, 5), 999);
        x.lay(9);
        for (int i = 0; i < 40; i++) {
            x.see(i % 6, 999, true);
            x.letter('h');
            x.hang();
        }
        int[] told = {6, 6, 9, 999, 0, 0, 0, 6, 30, 1, 30};
        for (int what = 0; what <= 10; what++) {
            due("count(" + what + ")", x.count(what), told[what]);
        }
        x.night();
        due("count(6)", x.count(6), 1 + 9 + 2 + 1 + 9);
        x.blank();
        for (int read = 2; read <= 10; read++) {
            write(x, "h111,h111,h111").town();
            due("count(9)", x.count(9), read);
            due("count(0)", x.count(0), 3);
        }
    }

    private static void countKept() {
        says(25, "4 until which MINUTE it is kept (told on when that is over; 0: nobody kept it by the last OPENING, or there was none since lay(), night())");
        KeyOnStreet x = in("l011,w111,h211");
        due("count(4), no opening", x.count(4), 0);
        x.shut(0, true);
        due("count(4), not opened yet", x.count(4), 0);
        x.open(0);
        due("count(4), at 0", x.count(4), 5);
        x.pass(5);
        due("count(4), at 5", x.count(4), 5);
        x.pass(1);
        due("count(4), told on at 6", x.count(4), 5);
        x.image();
        x.shut(1, true);
        due("count(4), told on though another waits", x.count(4), 5);
        x.open(1);
        due("count(4), the last opening was a widow's", x.count(4), 0);
        x.restore();
        due("count(4), restored", x.count(4), 5);
        x.lay(0);
        due("count(4) behind lay()", x.count(4), 0);
        x.restore();
        x.night();
        due("count(4) behind night()", x.count(4), 0);
        x.restore();
        due("open(0), not shut out", x.open(0), STATE);
        due("count(4), an opening that was refused", x.count(4), 5);
        x.shut(0, true);
        due("open(0)", x.open(0), 6);
        due("count(4), lovers again", x.count(4), 11);
        write(x, "l011,w111,h211").town();
        due("count(4), another town", x.count(4), 0);
    }

    private static void count512Calls() {
        says(25, "An object is used for at most 512 calls after it has been made");
        KeyOnStreet x = new KeyOnStreet();
        String town = "h019,h919,i555";
        int calls = 0;
        for (int i = 0; i < town.length(); i++) {
            x.letter(town.charAt(i));
            calls++;
        }
        x.town();
        calls++;
        int minute = 0;
        int late = 0;
        for (int house = 1; calls < 509; house = 1 - house) {
            x.shut(house, true);
            // Behind the first way, which goes from 0 to 9, too, each is as far: 9 and the door.
            minute += 10;
            late += 9 * (minute - 4);
            due("open(" + house + "), call " + (calls + 2), x.open(house), minute);
            calls += 2;
        }
        due("count(3), call " + (calls + 1), x.count(3), minute);
        due("count(5), call " + (calls + 2), x.count(5), late);
        due("calls", calls + 3, 512);
        due("pass(1), the last call", x.pass(1), STATE);
    }

    /** All numbers of the digest, from what the other calls tell. */
    private static List<Integer> numbersOf(KeyOnStreet x, String page) {
        List<Integer> numbers = new ArrayList<>();
        int houses = x.count(0);
        for (int house = 0; house < houses; house++) {
            for (int what = 0; what <= 7; what++) {
                numbers.add(x.about(house, what));
            }
        }
        for (int law = 0; law <= 2 && houses > 0; law++) {
            numbers.add(x.next(law));
            for (int what = 0; what <= 2; what++) {
                numbers.add(x.by(law, what));
            }
        }
        if (houses > 0) {
            numbers.addAll(List.of(x.best(0), x.best(1), x.best(10), x.shortest(), x.guess(0), x.guess(1)));
        }
        page.chars().forEach(numbers::add);
        for (int what = 0; what <= 10; what++) {
            numbers.add(x.count(what));
        }
        return numbers;
    }

    private static BigInteger digestWhole(List<Integer> numbers) {
        BigInteger h = BigInteger.valueOf(823);
        for (int number : numbers) {
            h = h.multiply(BigInteger.valueOf(31)).add(BigInteger.valueOf(number));
        }
        return h;
    }

    private static void digestOf(String when, KeyOnStreet x, String page) {
        due("digest(), " + when, x.digest(), digestWhole(numbersOf(x, page)).longValue());
    }

    private static void digestOfNothing() {
        says(26, "h is 823, then for each of these numbers, in order, 31 times h, and it");
        // 823 times 31 to the 11th, in longs.
        due("digest() of a new object", new KeyOnStreet().digest(), BigInteger.valueOf(31).pow(11).multiply(BigInteger.valueOf(823)).longValue());
        digestOf("no town, no letter", new KeyOnStreet(), "");
        digestOf("no town, the least letter", page("\u0001"), "\u0001");
        digestOf("no town, the greatest letter", page("~"), "~");
        digestOf("no town, a full page", page("~".repeat(30)), "~".repeat(30));
        digestOf("no town, a page that is one", page(SIX), SIX);
        for (int houses = 3; houses <= 6; houses++) {
            digestOf(houses + " houses", in(SIX.substring(0, 5 * houses - 1)), "");
        }
    }

    private static void digestWraps() {
        says(26, "as longs, wrapping");
        String full = "~".repeat(30);
        KeyOnStreet x = write(shutOut(in(SIX), 0, 1, 2, 3, 4, 5), full);
        BigInteger whole = digestWhole(numbersOf(x, full));
        due("it is far above a long", whole.bitLength() > 64 ? 1 : 0, 1);
        due("digest(), all shut out, a full page", x.digest(), whole.longValue());
        boolean below = false;
        boolean above = false;
        for (int i = 0; i < 12; i++) {
            x = write(shutOut(later(in(SIX), 90 * i), i % 6, (i + 3) % 6), full);
            digestOf("at " + x.count(3), x, full);
            below |= x.digest() < 0;
            above |= x.digest() > 0;
        }
        due("some are below 0, some above", below && above ? 1 : 0, 1);
        x = shutOut(later(in(SIX), 999), 5);
        x.open(5);
        digestOf("above 999", x, "");
        digestOf("in use", busy(), "h2");
    }

    private static void digestChangesNothing() {
        says(26, "what next(), by(), best(), guess(), count() tell: it changes nothing");
        KeyOnStreet x = busy();
        long first = x.digest();
        due("digest() again", x.digest(), first);
        like("behind digest()", x, busy());
        KeyOnStreet y = new KeyOnStreet();
        y.digest();
        like("behind digest() of a new object", y, new KeyOnStreet());
    }
}
