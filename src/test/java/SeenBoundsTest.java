import java.util.function.Supplier;

/** "what was seen": each boundary that promises 19 to 22 name. */
public final class SeenBoundsTest extends Checks {
    public static void main(String[] args) {
        seeNumbers();
        seeFull();
        forgetEmptyAndFull();
        guessNumbers();
        guessNothingSeen();
        guessByThenOrEarlier();
        guessOneOfThirty();
        guessNotShutOut();
        guessFromMinuteNought();
        guessAllThatIsSeen();
        nightsNumbers();
        nightsSeeds();
        nightsOne();
        nightsAsTheyWouldBe();
        nightsAddUp();
        end(19, 22);
    }

    private static void seeNumbers() {
        says(19, "UNKNOWN; OUTSIDE: minute (0 to 999)");
        int[] wrongMinutes = {MIN, -1, 1000, 1001, MAX};
        for (int houses = 3; houses <= 6; houses++) {
            String text = SIX.substring(0, 5 * houses - 1);
            int last = houses - 1;
            Supplier<KeyOnStreet> scene = () -> shutOut(in(text), 0, last);
            int[] unknown = {MIN, -1, houses, houses + 1, MAX};
            refusedEach("see(#, 0, true)", scene, (x, house) -> x.see(house, 0, true), UNKNOWN, unknown);
            refusedEach("see(#, 1000, false)", scene, (x, house) -> x.see(house, 1000, false), UNKNOWN, unknown);
            refusedEach("see(0, #, true)", scene, (x, minute) -> x.see(0, minute, true), OUTSIDE, wrongMinutes);
            refusedEach("see(last, #, false)", scene, (x, minute) -> x.see(last, minute, false), OUTSIDE, wrongMinutes);
            KeyOnStreet x = in(text);
            due("see(0, 0, true)", x.see(0, 0, true), 1);
            due("see(last, 999, false)", x.see(last, 999, false), 2);
            due("count(7)", x.count(7), 2);
        }
        refused("see(0, 0, true) without a town", KeyOnStreet::new, x -> x.see(0, 0, true), UNKNOWN);
        refused("see(0, 1000, true) without a town", KeyOnStreet::new, x -> x.see(0, 1000, true), UNKNOWN);
    }

    private static void seeFull() {
        says(19, "SEEN (6 at most): how much is; FULL");
        Supplier<KeyOnStreet> full = () -> {
            KeyOnStreet x = busy();
            for (int i = 3; i <= 6; i++) {
                due("see(1, 9, true), the " + i + "th", x.see(1, 9, true), i);
            }
            return x;
        };
        refusedEach("see(#, 0, true), the seventh", full, (x, house) -> x.see(house, 0, true), FULL, 0, 1, 4);
        refusedEach("see(0, #, false), the seventh", full, (x, minute) -> x.see(0, minute, false), FULL, 0, 999);
        refusedEach("see(0, #, true), the seventh", full, (x, minute) -> x.see(0, minute, true), OUTSIDE, MIN, -1, 1000, MAX);
        refusedEach("see(#, 0, true), the seventh", full, (x, house) -> x.see(house, 0, true), UNKNOWN, MIN, -1, 5, MAX);
        refusedEach("see(#, -1, true), the seventh", full, (x, house) -> x.see(house, -1, true), UNKNOWN, MIN, -1, 5, MAX);
        KeyOnStreet x = full.get();
        due("see(), the seventh", x.see(1, 9, true), FULL);
        due("see(), once more", x.see(1, 9, true), FULL);
        due("count(7)", x.count(7), 6);
        due("restore(), to a time when less was seen", x.restore(), 8);
        due("see()", x.see(1, 9, true), 1);
    }

    private static void forgetEmptyAndFull() {
        says(20, "Nothing is SEEN any more: how much was");
        KeyOnStreet x = new KeyOnStreet();
        due("forget() without a town", x.forget(), 0);
        like("behind forget() without a town", x, new KeyOnStreet());
        x = in(STREET);
        due("forget() of none", x.forget(), 0);
        for (int many = 1; many <= 6; many++) {
            for (int i = 1; i <= many; i++) {
                due("see()", x.see(1, 9, true), i);
            }
            due("guess(0), what never can be", x.guess(0), 0);
            due("forget() of " + many, x.forget(), many);
            due("count(7)", x.count(7), 0);
            due("guess(0), nothing seen", x.guess(0), 30);
            due("forget() again", x.forget(), 0);
        }
        x.see(1, 9, true);
        x.image();
        x.forget();
        x.restore();
        due("forget() behind restore()", x.forget(), 1);
        x.see(1, 9, true);
        write(x, STREET).town();
        due("forget() in another town", x.forget(), 0);
    }

    private static void guessNumbers() {
        says(21, "what = 0 how many, 1 the least; OUTSIDE; STATE");
        int[] wrong = {MIN, -1, 2, 3, MAX};
        refusedEach("guess(#)", Checks::busy, (x, what) -> x.guess(what), OUTSIDE, wrong);
        refusedEach("guess(#) without a town", KeyOnStreet::new, (x, what) -> x.guess(what), OUTSIDE, wrong);
        refusedEach("guess(#) without a town", KeyOnStreet::new, (x, what) -> x.guess(what), STATE, 0, 1);
        KeyOnStreet x = busy();
        x.guess(0);
        x.guess(1);
        like("behind guess()", x, busy());
    }

    private static void guesses(String when, KeyOnStreet x, int many, int least) {
        due("guess(0), " + when, x.guess(0), many);
        due("guess(1), " + when, x.guess(1), least);
    }

    private static void guessNothingSeen() {
        says(21, "how many of these thirty make all that is SEEN so; the least");
        guesses("nothing seen, nobody shut out", in(SIX), 30, 0);
        guesses("nothing seen, all shut out", shutOut(in(SIX), 0, 1, 2, 3, 4, 5), 30, 0);
    }

    private static void guessOf(String town, int minute, boolean is, int many, int least) {
        KeyOnStreet x = shutOut(in(town), 0);
        x.see(0, minute, is);
        guesses(town + " by " + minute + " " + is, x, many, least);
    }

    private static void guessByThenOrEarlier() {
        says(21, "that a HOUSE was IN by a MINUTE (then, or earlier), or was not");
        String widow = "w511,h111,h111";
        guessOf(widow, 0, true, 3, 15);
        guessOf(widow, 1, true, 9, 12);
        guessOf(widow, 4, true, 27, 3);
        guessOf(widow, 5, true, 30, 0);
        guessOf(widow, 999, true, 30, 0);
        guessOf(widow, 0, false, 27, 0);
        guessOf(widow, 3, false, 9, 0);
        guessOf(widow, 4, false, 3, 0);
        guessOf(widow, 5, false, 0, NONE);
        guessOf(widow, 999, false, 0, NONE);
        String atTheEnd = "h911,h111,h111";
        guessOf(atTheEnd, 0, true, 0, NONE);
        guessOf(atTheEnd, 1, true, 3, 27);
        guessOf(atTheEnd, 9, true, 27, 3);
        guessOf(atTheEnd, 10, true, 30, 0);
        guessOf(atTheEnd, 9, false, 3, 0);
        guessOf(atTheEnd, 10, false, 0, NONE);
        guessOf(atTheEnd, 0, false, 30, 0);
    }

    /** Two doors at the ends; the one at 9 waits since 0, that at 0 since 1 and must be opened sooner. */
    private static KeyOnStreet atBothEnds() {
        KeyOnStreet x = shutOut(in("w991,w011,m911"), 0);
        x.pass(1);
        return shutOut(x, 1);
    }

    private static void guessOneOfThirty() {
        says(21, "3 times PLACE and LAW: the least");
        KeyOnStreet x = atBothEnds();
        x.see(1, 17, false);
        guesses("place 0 by queue alone", x, 1, 0);
        x = atBothEnds();
        x.see(0, 17, false);
        x.see(1, 9, true);
        guesses("place 9 by need alone", x, 1, 29);
        x = atBothEnds();
        x.see(0, 13, false);
        x.see(1, 5, true);
        guesses("place 5 by need alone", x, 1, 17);
        x.see(1, 4, true);
        guesses("none", x, 0, NONE);
        x = atBothEnds();
        x.shut(2, true);
        x.see(2, 2, true);
        x.see(0, 1, true);
        guesses("a midwife ahead: from her place, by queue and near", x, 2, 27);
    }

    private static void guessNotShutOut() {
        says(21, "a HOUSE that is not SHUT OUT now is never IN by that");
        KeyOnStreet x = in(SIX);
        x.see(5, 0, false);
        guesses("not in by 0", x, 30, 0);
        x.see(5, 999, false);
        guesses("not in by 999", x, 30, 0);
        x.see(5, 999, true);
        guesses("in by 999", x, 0, NONE);
        for (int house = 0; house < 6; house++) {
            x = shutOut(in(SIX), house);
            x.open(house);
            x.see(house, 999, true);
            guesses(house + " in before, not shut out now", x, 0, NONE);
            x.shut(house, true);
            guesses(house + " shut out again", x, 30, 0);
            x.shut(house, false);
            guesses(house + " not any more", x, 0, NONE);
        }
    }

    private static void guessFromMinuteNought() {
        says(21, "the KEY was at a PLACE at MINUTE 0 (nobody keeping it)");
        KeyOnStreet x = shutOut(in("l511,w511,h111"), 0);
        x.open(0);
        due("count(4)", x.count(4), 10);
        x.shut(1, true);
        x.see(1, 0, true);
        guesses("though lovers keep it now", x, 3, 15);
        later(x, 994);
        due("count(3)", x.count(3), 999);
        guesses("though it is 999 now", x, 3, 15);
        x.shut(1, false);
        x.shut(1, true);
        guesses("though it is shut out since 999", x, 3, 15);
        x.lay(0);
        guesses("wherever the key is now", x, 3, 15);
    }

    private static void guessAllThatIsSeen() {
        says(21, "all that is SEEN");
        for (int wrongOne = 0; wrongOne < 6; wrongOne++) {
            KeyOnStreet x = shutOut(in("w511,h111,h111"), 0);
            for (int i = 0; i < 6; i++) {
                x.see(0, 4, i != wrongOne);
            }
            guesses("what is seen as the " + wrongOne + "th is against it", x, 0, NONE);
        }
        KeyOnStreet x = shutOut(in("w511,h111,h111"), 0);
        for (int i = 0; i < 5; i++) {
            x.see(0, 5, true);
        }
        guesses("five", x, 30, 0);
        x.see(0, 0, true);
        guesses("six", x, 3, 15);
    }

    private static void nightsNumbers() {
        says(22, "OUTSIDE: nights (1 to 60), seed (0 at least), what; STATE");
        int[] wrongNights = {MIN, -1, 0, 61, MAX};
        int[] wrongWhats = {MIN, -1, 3, MAX};
        refusedEach("nights(#, 5, 0)", Checks::busy, (x, nights) -> x.nights(nights, 5, 0), OUTSIDE, wrongNights);
        refusedEach("nights(1, #, 0)", Checks::busy, (x, seed) -> x.nights(1, seed, 0), OUTSIDE, MIN, -2, -1);
        refusedEach("nights(1, 5, #)", Checks::busy, (x, what) -> x.nights(1, 5, what), OUTSIDE, wrongWhats);
        Supplier<KeyOnStreet> made = KeyOnStreet::new;
        refusedEach("nights(#, 5, 0) without a town", made, (x, nights) -> x.nights(nights, 5, 0), OUTSIDE, wrongNights);
        refusedEach("nights(1, #, 0) without a town", made, (x, seed) -> x.nights(1, seed, 0), OUTSIDE, MIN, -1);
        refusedEach("nights(1, 5, #) without a town", made, (x, what) -> x.nights(1, 5, what), OUTSIDE, wrongWhats);
        refusedEach("nights(#, 0, 0) without a town", made, (x, nights) -> x.nights(nights, 0, 0), STATE, 1, 60);
        refusedEach("nights(1, #, 2) without a town", made, (x, seed) -> x.nights(1, seed, 2), STATE, 0, MAX);
        KeyOnStreet x = busy();
        for (int what = 0; what <= 2; what++) {
            x.nights(60, MAX, what);
        }
        like("behind nights()", x, busy());
    }

    private static void nightsSeeds() {
        says(22, "1103515245 times it and 12345, its rest by 2 to the 31");
        // One draw for each house and one for the law: so many seeds further, reckoned elsewhere in whole numbers.
        int[][] seeds = {
            {0, 1449466924, 1587721680, 1051550459, 450491660},
            {1, 1147902781, 444983185, 1508029952, 937502365},
            {1 << 30, 375725100, 513979856, 2125292283, 1524233484},
            {MAX, 1751031067, 582976527, 595070966, 2110964603}};
        KeyOnStreet three = in("h111,h511,h911");
        KeyOnStreet six = in(SIX);
        for (int[] row : seeds) {
            due("nights(1, " + row[0] + ", 2), three houses", three.nights(1, row[0], 2), row[1]);
            due("nights(60, " + row[0] + ", 2), three houses", three.nights(60, row[0], 2), row[2]);
            due("nights(1, " + row[0] + ", 2), six houses", six.nights(1, row[0], 2), row[3]);
            due("nights(60, " + row[0] + ", 2), six houses", six.nights(60, row[0], 2), row[4]);
        }
    }

    private static void night(String who, KeyOnStreet x, int seed, int late, int place) {
        due("nights(1, " + seed + ", 0), " + who, x.nights(1, seed, 0), late);
        due("nights(1, " + seed + ", 1), " + who, x.nights(1, seed, 1), place);
    }

    private static void nightsOne() {
        says(22, "each HOUSE, by number, is SHUT OUT, if a DRAW of 2 is 1; then all go BY the LAW of a DRAW of 3");
        // Who is drawn by a seed was reckoned elsewhere: 0 none, 30 the first, 6 the second, 1 the third, 3 all by need.
        KeyOnStreet x = in("l022,w922,h312");
        night("nobody", x, 0, 0, 0);
        night("lovers at the door", x, 30, 0, 0);
        night("a widow, a minute late", x, 6, 2, 9);
        night("a house, just in time", x, 1, 0, 3);
        night("all by need", x, 3, 26, 9);
        x.lay(9);
        night("nobody, the key stays", x, 0, 0, 9);
        night("lovers, a minute late", x, 30, 2, 0);
        night("a widow at the door", x, 6, 0, 9);
        night("a house, three minutes late", x, 1, 6, 3);
        x.lay(4);
        night("nobody, the key stays", x, 0, 0, 4);
        night("a widow in time", x, 6, 0, 9);
    }

    private static void nightsAsTheyWouldBe() {
        says(22, "from MINUTE 0, the KEY where it was last, nobody keeping it");
        KeyOnStreet x = shutOut(in("l022,w922,h312"), 0);
        due("open(0)", x.open(0), 0);
        due("count(4)", x.count(4), 5);
        night("though lovers keep it now", x, 6, 2, 9);
        later(x, 500);
        night("though it is 500 now", x, 6, 2, 9);
        shutOut(x, 0, 1, 2);
        night("though all are shut out now", x, 0, 0, 0);
        night("though all are shut out now", x, 6, 2, 9);
        due("count(1), all are so still", x.count(1), 3);
        due("count(3)", x.count(3), 500);
        x.open(2);
        due("count(5)", x.count(5), 1000);
        night("though some were late before", x, 30, 0, 0);
    }

    private static void nightsAddUp() {
        says(22, "what is LATE is added up");
        for (String town : new String[] {"l911,w022,h511", "l011,l911,m519", SIX}) {
            for (int seed : new int[] {0, 3, 12, 4711, MAX}) {
                KeyOnStreet x = in(town);
                int late = 0;
                int drawn = seed;
                for (int i = 1; i <= 60; i++) {
                    // lay() ends the keeping, as each night does.
                    late += x.nights(1, drawn, 0);
                    int place = x.nights(1, drawn, 1);
                    drawn = x.nights(1, drawn, 2);
                    x.lay(place);
                    if (i == 1 || i == 2 || i == 59 || i == 60) {
                        KeyOnStreet y = in(town);
                        due("nights(" + i + ", " + seed + ", 0)", y.nights(i, seed, 0), late);
                        due("nights(" + i + ", " + seed + ", 1)", y.nights(i, seed, 1), place);
                        due("nights(" + i + ", " + seed + ", 2)", y.nights(i, seed, 2), drawn);
                    }
                }
            }
        }
    }
}
