import java.util.function.Supplier;

/** "what would be": each boundary that promises 13 to 18 name. */
public final class RoundsBoundsTest extends Checks {
    public static void main(String[] args) {
        nextNumbers();
        nextEmpty();
        nextOfLikeOnes();
        nextMidwivesAhead();
        byNumbers();
        byEmptyAndFull();
        bestNumbers();
        bestEmptyAndFull();
        bestOfLikeOnes();
        shortestEmptyAndFull();
        hangWithoutTown();
        hangThirtyTimes();
        hangPlaces();
        twoKeysEmptyAndFull();
        twoKeysWhichever();
        end(13, 18);
    }

    /** Nobody is shut out at minute 10; the key is at 7, kept by lovers until 15. */
    private static KeyOnStreet keptForNobody() {
        KeyOnStreet x = shutOut(in(STREET), 2);
        x.pass(3);
        due("open(2)", x.open(2), 10);
        due("count(4)", x.count(4), 15);
        return x;
    }

    private static KeyOnStreet allShutOut() {
        return shutOut(in(SIX), 0, 1, 2, 3, 4, 5);
    }

    private static void nextNumbers() {
        says(13, "OUTSIDE: law (0 to 2); STATE");
        int[] wrong = {MIN, -1, 3, 4, MAX};
        refusedEach("next(#)", Checks::busy, (x, law) -> x.next(law), OUTSIDE, wrong);
        refusedEach("next(#) without a town", KeyOnStreet::new, (x, law) -> x.next(law), OUTSIDE, wrong);
        refusedEach("next(#) without a town", KeyOnStreet::new, (x, law) -> x.next(law), STATE, 0, 1, 2);
        KeyOnStreet x = busy();
        due("next(0)", x.next(0), 0);
        due("next(1)", x.next(1), 4);
        due("next(2)", x.next(2), 0);
        like("behind next()", x, busy());
    }

    private static void nextEmpty() {
        says(13, "NONE: nobody is SHUT OUT");
        KeyOnStreet x = in(SIX);
        for (int law = 0; law <= 2; law++) {
            due("next(" + law + ") at first", x.next(law), NONE);
        }
        x.shut(5, true);
        for (int law = 0; law <= 2; law++) {
            due("next(" + law + "), the last one alone", x.next(law), 5);
        }
        x.open(5);
        for (int law = 0; law <= 2; law++) {
            due("next(" + law + "), all are in", x.next(law), NONE);
        }
    }

    private static void nextOfLikeOnes() {
        says(13, "since the least MINUTE; nearest to the KEY; of least LATEST; of like ones the least");
        KeyOnStreet x = shutOut(in("h355,h555,h455"), 2, 1, 0);
        x.lay(4);
        due("next(0), all like", x.next(0), 0);
        due("next(1), at the door", x.next(1), 2);
        due("next(2), all like", x.next(2), 0);
        x.shut(2, false);
        due("next(1), one on each side", x.next(1), 0);
        x.shut(0, false);
        x.pass(1);
        x.shut(0, true);
        due("next(0), a minute earlier", x.next(0), 1);
        x.shut(2, true);
        x.shut(1, false);
        due("next(0), like ones", x.next(0), 0);
        x = shutOut(in("h091,h981,h912"), 0, 1, 2);
        due("next(2), least latest", x.next(2), 2);
        x.shut(2, false);
        due("next(2), 8 ahead of 9", x.next(2), 1);
        due("next(1), from end to end", x.next(1), 0);
        x.lay(9);
        due("next(1), from end to end", x.next(1), 1);
        x = shutOut(in("h111,h111,h111"), 2);
        later(x, 999);
        x.shut(0, true);
        due("next(0), since 0 ahead of since 999", x.next(0), 2);
    }

    private static void nextMidwivesAhead() {
        says(13, "MIDWIVES ahead of all others");
        KeyOnStreet x = shutOut(in("h511,m999,m099"), 0);
        x.lay(4);
        x.pass(3);
        x.shut(1, true);
        x.pass(2);
        x.shut(2, true);
        due("next(0), of two midwives", x.next(0), 1);
        due("next(1), of two midwives", x.next(1), 2);
        due("next(2), of two midwives", x.next(2), 1);
        x.shut(1, false);
        for (int law = 0; law <= 2; law++) {
            due("next(" + law + "), one midwife", x.next(law), 2);
        }
        x.shut(2, false);
        for (int law = 0; law <= 2; law++) {
            due("next(" + law + "), no midwife", x.next(law), 0);
        }
    }

    private static void byNumbers() {
        says(14, "OUTSIDE: law, what; STATE");
        int[] wrong = {MIN, -1, 3, 4, MAX};
        refusedEach("by(#, 0)", Checks::busy, (x, law) -> x.by(law, 0), OUTSIDE, wrong);
        refusedEach("by(2, #)", Checks::busy, (x, what) -> x.by(2, what), OUTSIDE, wrong);
        refusedEach("by(#, #)", Checks::busy, (x, number) -> x.by(number, number), OUTSIDE, wrong);
        refusedEach("by(#, 0) without a town", KeyOnStreet::new, (x, law) -> x.by(law, 0), OUTSIDE, wrong);
        refusedEach("by(0, #) without a town", KeyOnStreet::new, (x, what) -> x.by(0, what), OUTSIDE, wrong);
        refusedEach("by(#, 2) without a town", KeyOnStreet::new, (x, law) -> x.by(law, 2), STATE, 0, 1, 2);
        KeyOnStreet x = busy();
        for (int law = 0; law <= 2; law++) {
            for (int what = 0; what <= 2; what++) {
                x.by(law, what);
            }
        }
        like("behind by()", x, busy());
    }

    private static void byEmptyAndFull() {
        says(14, "the MINUTE at which the last one is IN (this one, if nobody is SHUT OUT)");
        for (int law = 0; law <= 2; law++) {
            KeyOnStreet x = keptForNobody();
            due("by(" + law + ", 0), nobody", x.by(law, 0), 0);
            due("by(" + law + ", 1), nobody, though it is kept", x.by(law, 1), 10);
            due("by(" + law + ", 2), nobody", x.by(law, 2), 7);
            x.shut(1, true);
            due("by(" + law + ", 0), without what was late before", x.by(law, 0), 15);
            due("by(" + law + ", 1), one, when they give it away", x.by(law, 1), 17);
            due("by(" + law + ", 2), one", x.by(law, 2), 5);
            x = in(SIX);
            due("by(" + law + ", 1) at first", x.by(law, 1), 0);
            due("by(" + law + ", 2) at first", x.by(law, 2), 0);
        }
        KeyOnStreet x = allShutOut();
        int[][] told = {{9, 20, 9}, {9, 20, 9}, {6, 24, 9}};
        for (int law = 0; law <= 2; law++) {
            for (int what = 0; what <= 2; what++) {
                due("by(" + law + ", " + what + "), all six", x.by(law, what), told[law][what]);
            }
        }
    }

    private static void bestNumbers() {
        says(15, "what = 0, 1, 10 to 15; OUTSIDE; STATE");
        int[] wrong = {MIN, -1, 2, 3, 8, 9, 16, 17, MAX};
        refusedEach("best(#)", Checks::busy, (x, what) -> x.best(what), OUTSIDE, wrong);
        refusedEach("best(#), all six", RoundsBoundsTest::allShutOut, (x, what) -> x.best(what), OUTSIDE, wrong);
        refusedEach("best(#) without a town", KeyOnStreet::new, (x, what) -> x.best(what), OUTSIDE, wrong);
        refusedEach("best(#) without a town", KeyOnStreet::new, (x, what) -> x.best(what), STATE, 0, 1, 10, 11, 14, 15);
        KeyOnStreet x = busy();
        for (int what : new int[] {0, 1, 10, 11, 12, 13, 14, 15}) {
            x.best(what);
        }
        like("behind best()", x, busy());
    }

    private static void bestEmptyAndFull() {
        says(15, "10 to 15 the so-manieth HOUSE (NONE: there is none)");
        KeyOnStreet x = keptForNobody();
        due("best(0), nobody", x.best(0), 0);
        due("best(1), nobody, though it is kept", x.best(1), 10);
        for (int many = 0; many <= 6; many++) {
            // Widows one behind the other on the key's way: the best round goes along the street.
            x = in("w191,w291,w391,w491,w591,w691");
            for (int house = 0; house < many; house++) {
                x.shut(house, true);
            }
            due("best(0) of " + many, x.best(0), 0);
            due("best(1) of " + many, x.best(1), many);
            for (int i = 0; i < 6; i++) {
                due("best(" + (10 + i) + ") of " + many, x.best(10 + i), i < many ? i : NONE);
            }
        }
        x = allShutOut();
        int[] order = {1, 0, 3, 4, 2, 5};
        due("best(0), all six", x.best(0), 6);
        due("best(1), all six", x.best(1), 24);
        for (int i = 0; i < 6; i++) {
            due("best(" + (10 + i) + "), all six", x.best(10 + i), order[i]);
        }
        x = in(SIX);
        due("best(10) of none behind best(10) of six", x.best(10), NONE);
    }

    private static void bestOfLikeOnes() {
        says(15, "of least LATE together; of like ones that by which the last one is IN earliest; of like ones the first by numbers");
        KeyOnStreet x = shutOut(in("i911,i111,i511"), 0, 1, 2);
        int[] alongTheStreet = {1, 2, 0};
        due("best(0), nobody is late", x.best(0), 0);
        due("best(1), the earliest end", x.best(1), 12);
        for (int i = 0; i < 3; i++) {
            due("best(" + (10 + i) + "), the earliest end", x.best(10 + i), alongTheStreet[i]);
        }
        x = shutOut(in("w511,i511,w511,i511,w511,i511"), 5, 4, 3, 2, 1, 0);
        x.lay(5);
        for (int i = 0; i < 6; i++) {
            due("best(" + (10 + i) + "), all at one door", x.best(10 + i), i);
        }
        // From the middle both ways are as long: the first by numbers.
        x = shutOut(in("i811,i211,i555"), 1, 0);
        x.lay(5);
        due("best(10), both ways are like", x.best(10), 0);
        due("best(1), both ways are like", x.best(1), 11);
        // To be in time counts more than to be done early: the first one is in at 4, not at 13.
        x = shutOut(in("i011,h311,i111"), 0, 1, 2);
        due("best(0), in time", x.best(0), 0);
        due("best(10), in time", x.best(10), 1);
        due("best(1), in time", x.best(1), 9);
        due("shortest()", x.shortest(), 6);
    }

    private static void shortestEmptyAndFull() {
        says(16, "this MINUTE, if nobody is SHUT OUT; STATE");
        refused("shortest() without a town", KeyOnStreet::new, x -> x.shortest(), STATE);
        due("shortest() at first", in(SIX).shortest(), 0);
        due("shortest() at 999", later(in(SIX), 999).shortest(), 999);
        KeyOnStreet x = keptForNobody();
        due("shortest(), nobody, though it is kept", x.shortest(), 10);
        x.shut(2, true);
        due("shortest(), one at the door, when they give it away", x.shortest(), 15);
        x.lay(7);
        due("shortest(), one at the door", x.shortest(), 10);
        due("shortest(), all six, a midwife first", allShutOut().shortest(), 20);
        x = busy();
        due("shortest() in use", x.shortest(), 22);
        like("behind shortest()", x, busy());
    }

    private static void hangWithoutTown() {
        says(17, "STATE: no TOWN");
        refused("hang()", KeyOnStreet::new, x -> x.hang(), STATE);
        KeyOnStreet x = page(SIX);
        for (int i = 0; i < 31; i++) {
            x.hang();
        }
        due("count(10), refused ones are not done", x.count(10), 0);
        due("town()", x.town(), 6);
        due("hang()", x.hang(), 0);
        due("count(10)", x.count(10), 1);
    }

    private static void hangThirtyTimes() {
        says(17, "STATE: hang() was done 30 times");
        Supplier<KeyOnStreet> hung = () -> {
            KeyOnStreet x = busy();
            for (int i = 2; i <= 30; i++) {
                due("hang() for the " + i + "th time", x.hang(), 2);
                due("count(10)", x.count(10), i);
            }
            return x;
        };
        refused("hang() for the 31st time", hung, x -> x.hang(), STATE);
        KeyOnStreet x = hung.get();
        due("hang()", x.hang(), STATE);
        due("hang() again", x.hang(), STATE);
        due("count(10)", x.count(10), 30);
        x.restore();
        due("hang() behind restore()", x.hang(), STATE);
        x.night();
        due("hang() another night", x.hang(), STATE);
    }

    private static void hangPlaces() {
        says(17, "of all PLACES for the KEY now (kept until the same MINUTE as it is): of like ones the least");
        KeyOnStreet x = in("h011,h511,h911,i711");
        x.lay(6);
        due("hang(), nobody is", x.hang(), 0);
        x.pass(3);
        x.shut(3, true);
        due("hang(), an inn", x.hang(), 0);
        x.shut(3, false);
        int[] door = {0, 5, 9};
        for (int house = 0; house < 3; house++) {
            x.shut(house, true);
            due("hang() at the door of " + house, x.hang(), door[house]);
            x.shut(house, false);
        }
        due("count(2), the key stays", x.count(2), 6);
        due("count(3)", x.count(3), 3);
        // Kept until 5, and in time until 8: a minute for the door, two for the way.
        x = shutOut(in("l011,h921,h111"), 0);
        x.open(0);
        x.shut(1, true);
        due("hang(), kept", x.hang(), 7);
        x.lay(0);
        due("hang(), not kept any more", x.hang(), 2);
        x = busy();
        x.hang();
        int[] asItWas = {5, 3, 7, 11, 15, 4, 5, 2, 2, 1, 2};
        for (int what = 0; what <= 10; what++) {
            due("count(" + what + ") behind hang()", x.count(what), asItWas[what]);
        }
    }

    private static void twoKeysEmptyAndFull() {
        says(18, "the earliest MINUTE at which all can be IN; STATE");
        refused("twoKeys() without a town", KeyOnStreet::new, x -> x.twoKeys(), STATE);
        due("twoKeys() at first", in(SIX).twoKeys(), 0);
        due("twoKeys() at 999", later(in(SIX), 999).twoKeys(), 999);
        KeyOnStreet x = keptForNobody();
        due("twoKeys(), nobody, though it is kept", x.twoKeys(), 10);
        x.shut(0, true);
        due("twoKeys(), one, when they give it away", x.twoKeys(), 21);
        x.lay(2);
        due("twoKeys(), one at the door", x.twoKeys(), 11);
        due("twoKeys(), all six", allShutOut().twoKeys(), 10);
        x = busy();
        x.twoKeys();
        like("behind twoKeys()", x, busy());
    }

    private static void twoKeysWhichever() {
        says(18, "one for some, one for the others, whichever, each in any order, MIDWIVES or not");
        KeyOnStreet x = shutOut(in("h011,h911,h411"), 0, 1);
        x.lay(4);
        due("twoKeys(), both ways", x.twoKeys(), 6);
        x.lay(0);
        due("twoKeys(), from an end", x.twoKeys(), 10);
        x.lay(9);
        due("twoKeys(), from the other end", x.twoKeys(), 10);
        x = shutOut(in("m911,h011,m011"), 0, 1);
        due("twoKeys(), a midwife far away", x.twoKeys(), 10);
        due("shortest()", x.shortest(), 20);
        // Each key goes its way along the street; with the midwives first both would have to turn back.
        x = shutOut(in("m911,m011,h711,h211"), 0, 1, 2, 3);
        x.lay(5);
        x.best(0);
        due("twoKeys(), midwives behind others", x.twoKeys(), 7);
        // Lovers last is the earliest, though they are many and late by it.
        x = shutOut(in("l319,l319,h491,h491"), 0, 1, 2, 3);
        x.pass(2);
        x.best(0);
        due("twoKeys(), whoever is late", x.twoKeys(), 8);
        // One key could do it as early, as there is no minute at a widow's door.
        x = shutOut(in("w111,w211,w311,w411,w511,w611"), 0, 1, 2, 3, 4, 5);
        due("twoKeys(), all on one way", x.twoKeys(), 6);
        due("shortest(), all on one way", x.shortest(), 6);
        // Three and three at one door.
        x = shutOut(in("h011,h011,h011,h011,h011,h011"), 0, 1, 2, 3, 4, 5);
        due("twoKeys(), half of them each", x.twoKeys(), 3);
        due("shortest()", x.shortest(), 6);
    }
}
