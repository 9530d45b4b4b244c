import java.util.function.Supplier;

/** "a night": each boundary that promises 8 to 12 name. */
public final class NightBoundsTest extends Checks {
    public static void main(String[] args) {
        shutNumbers();
        shutTwice();
        shutAtEdges();
        layNumbers();
        layEndsKeeping();
        passNumbers();
        passToTheLast();
        passAboveByOpening();
        openNumbers();
        openNotShutOut();
        openBesideMidwives();
        openNearAndFar();
        openKeptByLovers();
        openLateOrNot();
        nightWithoutTown();
        nightEmptyAndFull();
        nightPutsBack();
        end(8, 12);
    }

    private static void shutNumbers() {
        says(8, "UNKNOWN");
        for (int houses = 3; houses <= 6; houses++) {
            String text = SIX.substring(0, 5 * houses - 1);
            int[] unknown = {MIN, -1, houses, houses + 1, MAX};
            refusedEach("shut(#, true)", () -> in(text), (x, house) -> x.shut(house, true), UNKNOWN, unknown);
            refusedEach("shut(#, false)", () -> in(text), (x, house) -> x.shut(house, false), UNKNOWN, unknown);
            KeyOnStreet x = in(text);
            due("shut(0, true)", x.shut(0, true), 0);
            due("shut(last, true)", x.shut(houses - 1, true), 0);
            due("count(1)", x.count(1), 2);
        }
        refusedEach("shut(#, true) in use", Checks::busy, (x, house) -> x.shut(house, true), UNKNOWN, MIN, -1, 5, MAX);
    }

    private static void shutTwice() {
        says(8, "SHUT OUT since now (if it is so already, it stays as it is), or not any more: whether it was (1, 0)");
        KeyOnStreet x = in("h111,h111,h111");
        due("shut(0, false), it was not", x.shut(0, false), 0);
        due("about(0, 4)", x.about(0, 4), NONE);
        due("shut(0, true)", x.shut(0, true), 0);
        x.pass(1);
        due("shut(0, true) again", x.shut(0, true), 1);
        due("about(0, 4)", x.about(0, 4), 0);
        due("shut(0, false)", x.shut(0, false), 1);
        due("shut(0, false) again", x.shut(0, false), 0);
        due("about(0, 4)", x.about(0, 4), NONE);
        due("about(0, 5), the key let nobody in", x.about(0, 5), NONE);
        due("shut(0, true)", x.shut(0, true), 0);
        due("about(0, 4)", x.about(0, 4), 1);
        due("about(1, 4), of another", x.about(1, 4), NONE);
        x.open(0);
        due("shut(0, false) behind open(0)", x.shut(0, false), 0);
    }

    private static void shutAtEdges() {
        says(8, "A HOUSE is SHUT OUT since now");
        KeyOnStreet x = in(SIX);
        for (int house = 0; house < 6; house++) {
            due("shut(" + house + ", true)", x.shut(house, true), 0);
            due("count(1)", x.count(1), house + 1);
        }
        for (int house = 0; house < 6; house++) {
            due("shut(" + house + ", false)", x.shut(house, false), 1);
            due("count(1)", x.count(1), 5 - house);
        }
        later(x, 999);
        x.shut(5, true);
        due("about(5, 4)", x.about(5, 4), 999);
        due("open(5)", x.open(5), 1009);
        x.shut(5, true);
        due("about(5, 4), above 999", x.about(5, 4), 1009);
        due("shut(5, true) again", x.shut(5, true), 1);
        due("about(5, 4)", x.about(5, 4), 1009);
    }

    private static void layNumbers() {
        says(9, "OUTSIDE: place (0 to 9); STATE: no TOWN");
        int[] wrong = {MIN, -1, 10, 11, MAX};
        refusedEach("lay(#)", Checks::busy, (x, place) -> x.lay(place), OUTSIDE, wrong);
        refusedEach("lay(#) without a town", KeyOnStreet::new, (x, place) -> x.lay(place), OUTSIDE, wrong);
        refusedEach("lay(#) without a town", KeyOnStreet::new, (x, place) -> x.lay(place), STATE, 0, 5, 9);
        KeyOnStreet x = in(STREET);
        int was = 0;
        for (int place : new int[] {0, 9, 0, 1, 8, 9, 9}) {
            due("lay(" + place + "), where it was", x.lay(place), was);
            due("count(2)", x.count(2), place);
            was = place;
        }
    }

    private static void layEndsKeeping() {
        says(9, "who keeps it keeps it not any more");
        KeyOnStreet x = shutOut(in("l411,h511,w411"), 0);
        due("open(0)", x.open(0), 4);
        due("count(4)", x.count(4), 9);
        due("lay(4), where it is already", x.lay(4), 4);
        due("count(4)", x.count(4), 0);
        due("count(3)", x.count(3), 4);
        x.shut(1, true);
        due("open(1), nobody delays it", x.open(1), 6);
        x = busy();
        due("lay(9) in use", x.lay(9), 7);
        due("count(4)", x.count(4), 0);
        due("restore(): the image isn't laid", x.restore(), 8);
        due("count(2)", x.count(2), 5);
    }

    private static void passNumbers() {
        says(10, "OUTSIDE: minutes (1 to 30); STATE: no TOWN");
        int[] wrong = {MIN, -30, -1, 0, 31, MAX};
        refusedEach("pass(#)", Checks::busy, (x, minutes) -> x.pass(minutes), OUTSIDE, wrong);
        refusedEach("pass(#) without a town", KeyOnStreet::new, (x, minutes) -> x.pass(minutes), OUTSIDE, wrong);
        refusedEach("pass(#) without a town", KeyOnStreet::new, (x, minutes) -> x.pass(minutes), STATE, 1, 30);
        refusedEach("pass(#) at 999", () -> later(in(STREET), 999), (x, minutes) -> x.pass(minutes), OUTSIDE, wrong);
        KeyOnStreet x = in(STREET);
        due("pass(1)", x.pass(1), 1);
        due("pass(30)", x.pass(30), 31);
        due("count(3)", x.count(3), 31);
    }

    private static void passToTheLast() {
        says(10, "STATE: it would be above 999");
        refusedEach("pass(#) at 999", () -> later(shutOut(in(STREET), 0), 999), (x, minutes) -> x.pass(minutes), STATE, 1, 2, 30);
        refusedEach("pass(#) at 998", () -> later(in(STREET), 998), (x, minutes) -> x.pass(minutes), STATE, 2, 30);
        refusedEach("pass(#) at 970", () -> later(in(STREET), 970), (x, minutes) -> x.pass(minutes), STATE, 30);
        due("pass(1) at 998", later(in(STREET), 998).pass(1), 999);
        due("pass(29) at 970", later(in(STREET), 970).pass(29), 999);
        due("pass(30) at 969", later(in(STREET), 969).pass(30), 999);
        KeyOnStreet x = later(in(STREET), 999);
        due("pass(1)", x.pass(1), STATE);
        x.night();
        due("pass(30), another night", x.pass(30), 30);
    }

    private static void passAboveByOpening() {
        says(10, "STATE: it would be above 999 (an OPENING may end behind that)");
        Supplier<KeyOnStreet> scene = () -> {
            KeyOnStreet x = shutOut(later(in("h011,l911,w011"), 990), 1);
            due("open(1)", x.open(1), 999);
            x.shut(0, true);
            due("open(0), kept by lovers, far", x.open(0), 1014);
            return x;
        };
        refusedEach("pass(#) above 999", scene, (x, minutes) -> x.pass(minutes), STATE, 1, 30);
        refusedEach("pass(#) above 999", scene, (x, minutes) -> x.pass(minutes), OUTSIDE, 0, 31);
        KeyOnStreet x = scene.get();
        due("count(3)", x.count(3), 1014);
        due("image()", x.image(), 1014);
        x.shut(2, true);
        due("open(2)", x.open(2), 1014);
        due("shortest()", x.shortest(), 1014);
        due("restore()", x.restore(), 1014);
    }

    private static void openNumbers() {
        says(11, "UNKNOWN");
        for (int houses = 3; houses <= 6; houses++) {
            String text = SIX.substring(0, 5 * houses - 1);
            int last = houses - 1;
            refusedEach("open(#), nobody is", () -> in(text), (x, house) -> x.open(house), UNKNOWN, MIN, -1, houses, MAX);
            Supplier<KeyOnStreet> scene = () -> shutOut(in(text), 0, 1, last);
            refusedEach("open(#), a midwife is", scene, (x, house) -> x.open(house), UNKNOWN, MIN, -1, houses, houses + 1, MAX);
        }
        due("open(0), the first", shutOut(in(SIX), 0).open(0), 1);
        due("open(5), the last", shutOut(in(SIX), 5).open(5), 10);
    }

    private static void openNotShutOut() {
        says(11, "STATE: it is not SHUT OUT");
        refusedEach("open(#), nobody is", () -> in(SIX), (x, house) -> x.open(house), STATE, 0, 1, 2, 3, 4, 5);
        refusedEach("open(#), others are", Checks::busy, (x, house) -> x.open(house), STATE, 2, 3);
        Supplier<KeyOnStreet> opened = () -> {
            KeyOnStreet x = shutOut(in(SIX), 0, 4);
            x.open(4);
            return x;
        };
        refused("open(4), opened just now", opened, x -> x.open(4), STATE);
        Supplier<KeyOnStreet> noMore = () -> {
            KeyOnStreet x = shutOut(in(SIX), 0);
            x.shut(0, false);
            return x;
        };
        refused("open(0), not any more", noMore, x -> x.open(0), STATE);
    }

    private static void openBesideMidwives() {
        says(11, "STATE: a MIDWIFE is (and it is none)");
        String town = "m511,h011,w012,i013,l014,m911";
        Supplier<KeyOnStreet> all = () -> shutOut(in(town), 0, 1, 2, 3, 4, 5);
        refusedEach("open(#) beside two midwives", all, (x, house) -> x.open(house), STATE, 1, 2, 3, 4);
        Supplier<KeyOnStreet> oneLess = () -> {
            KeyOnStreet x = all.get();
            due("open(5), a midwife beside a midwife", x.open(5), 10);
            return x;
        };
        refusedEach("open(#) beside one", oneLess, (x, house) -> x.open(house), STATE, 1, 2, 3, 4, 5);
        KeyOnStreet x = oneLess.get();
        due("open(0), the other", x.open(0), 15);
        due("open(1), no midwife is any more", x.open(1), 21);
        x = shutOut(in(town), 0, 1);
        x.shut(0, false);
        due("open(1), the midwife isn't any more", x.open(1), 1);
        x = shutOut(in(town), 1);
        x.pass(3);
        x.shut(5, true);
        due("open(1), a midwife came behind it", x.open(1), STATE);
    }

    private static void openNearAndFar() {
        says(11, "it is there as many MINUTES later as it is far; OPENING takes 1 MINUTE more, none of a WIDOW (of LOVERS)");
        for (int place = 0; place <= 9; place++) {
            for (int from = 0; from <= 9; from++) {
                int far = from < place ? place - from : from - place;
                for (char kind : "hmiwl".toCharArray()) {
                    KeyOnStreet x = in("h011," + kind + place + "11,h911");
                    x.lay(from);
                    x.shut(1, true);
                    boolean widow = kind == 'w' || kind == 'l';
                    due("open(1), " + kind + " at " + place + ", from " + from, x.open(1), far + (widow ? 0 : 1));
                    due("count(2)", x.count(2), place);
                    due("count(3)", x.count(3), far + (widow ? 0 : 1));
                }
            }
        }
    }

    private static void openKeptByLovers() {
        says(11, "now, or when LOVERS, to whom it came last, give it away (5 MINUTES behind the one at which they were in)");
        int[] in = {7, 7, 7, 7, 7, 7, 8, 9};
        for (int waited = 0; waited < in.length; waited++) {
            KeyOnStreet x = shutOut(in("l011,h111,w011"), 0);
            due("open(0)", x.open(0), 0);
            due("count(4)", x.count(4), 5);
            later(x, waited);
            due("count(4) behind " + waited, x.count(4), 5);
            x.shut(1, true);
            due("open(1) behind " + waited, x.open(1), in[waited]);
            due("count(4), nobody keeps it", x.count(4), 0);
        }
        KeyOnStreet x = shutOut(in("l011,l011,w011"), 0, 1, 2);
        x.open(0);
        due("open(1), lovers behind lovers", x.open(1), 5);
        due("count(4)", x.count(4), 10);
        due("open(2)", x.open(2), 10);
        x.shut(2, true);
        due("open(2), of a widow who keeps nothing", x.open(2), 10);
    }

    private static void openLateOrNot() {
        says(11, "LATE are they by each MINUTE above 4 times LATEST as often as they are PEOPLE; those of an INN never");
        for (int latest = 1; latest <= 9; latest++) {
            for (int people : new int[] {1, 2, 9}) {
                String of = "at 0, " + latest + ", " + people;
                String town = "w0" + latest + people + ",m0" + latest + people + ",i0" + latest + people;
                KeyOnStreet x = shutOut(later(in(town), 4 * latest), 0);
                due("open(0) " + of, x.open(0), 4 * latest);
                due("about(0, 6), just in time", x.about(0, 6), 0);
                x.shut(1, true);
                due("open(1) " + of, x.open(1), 4 * latest + 1);
                due("about(1, 6), one minute", x.about(1, 6), people);
                x.shut(2, true);
                x.open(2);
                due("about(2, 6), an inn", x.about(2, 6), 0);
                x.shut(0, true);
                due("open(0) again", x.open(0), 4 * latest + 2);
                due("about(0, 6), two minutes", x.about(0, 6), 2 * people);
                x.shut(0, true);
                x.open(0);
                due("about(0, 6), together", x.about(0, 6), 4 * people);
                due("count(5)", x.count(5), 5 * people);
            }
        }
        KeyOnStreet x = shutOut(later(in("h019,i019,h999"), 999), 0);
        x.open(0);
        due("about(0, 6) at 1000", x.about(0, 6), 9 * 996);
        x.shut(1, true);
        x.open(1);
        due("about(1, 6) at 1001", x.about(1, 6), 0);
    }

    private static void nightWithoutTown() {
        says(12, "STATE: no TOWN");
        refused("night()", KeyOnStreet::new, x -> x.night(), STATE);
        refused("night() with a page that is one", () -> page(STREET), x -> x.night(), STATE);
    }

    private static void nightEmptyAndFull() {
        says(12, "of each HOUSE that is SHUT OUT (but an INN) PEOPLE were OUT a night more");
        KeyOnStreet x = in("h011,m192,i259,w313,l424,h999");
        due("night(), nobody is", x.night(), 0);
        due("count(6)", x.count(6), 0);
        x.shut(2, true);
        due("night(), an inn alone", x.night(), 0);
        due("about(2, 7)", x.about(2, 7), 0);
        due("count(1), it is still", x.count(1), 1);
        shutOut(x, 0, 1, 3, 4, 5);
        due("night(), all", x.night(), 19);
        due("night(), all again", x.night(), 19);
        int[] out = {2, 4, 0, 6, 8, 18};
        for (int house = 0; house < 6; house++) {
            due("about(" + house + ", 7)", x.about(house, 7), out[house]);
            due("about(" + house + ", 4)", x.about(house, 4), 0);
        }
        due("count(6)", x.count(6), 38);
        due("count(5), nobody is late by it", x.count(5), 0);
        x.shut(5, false);
        due("night(), all but one", x.night(), 10);
        due("about(5, 7)", x.about(5, 7), 18);
    }

    private static void nightPutsBack() {
        says(12, "it is MINUTE 0 then, who is SHUT OUT is so since that; the KEY is where it was, nobody keeps it");
        KeyOnStreet x = busy();
        due("night()", x.night(), 8);
        due("count(1)", x.count(1), 3);
        due("count(2)", x.count(2), 7);
        due("count(3)", x.count(3), 0);
        due("count(4)", x.count(4), 0);
        due("count(5)", x.count(5), 4);
        due("count(6)", x.count(6), 13);
        due("count(7)", x.count(7), 2);
        due("count(8)", x.count(8), 2);
        due("about(0, 4)", x.about(0, 4), 0);
        due("about(1, 4)", x.about(1, 4), 0);
        due("about(2, 4)", x.about(2, 4), NONE);
        due("about(4, 4)", x.about(4, 4), 0);
        due("about(1, 5)", x.about(1, 5), 8);
        due("about(2, 5)", x.about(2, 5), 10);
        due("next(0), all since 0", x.next(0), 0);
        due("open(1), nobody keeps the key", x.open(1), 2);
        due("restore(), the image stays", x.restore(), 8);
        x = shutOut(later(in("h011,w999,h999"), 999), 1);
        due("open(1)", x.open(1), 1008);
        x.shut(0, true);
        due("night() above 999", x.night(), 1);
        due("count(3)", x.count(3), 0);
        due("count(2)", x.count(2), 9);
    }
}
