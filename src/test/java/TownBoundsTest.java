import java.util.function.Supplier;

/** "the town": each boundary that promises 1 to 7 name. */
public final class TownBoundsTest extends Checks {
    public static void main(String[] args) {
        noTownAtFirst();
        whatNeedsTownRefuses();
        objectsStandAlone();
        letterCodes();
        letterFull();
        blankPages();
        faultAtEachPlace();
        faultEmptyAndFull();
        townOfEachLength();
        townOfEachLetter();
        townRefusedChangesNothing();
        townPutsAllBack();
        townOfOtherSize();
        aboutNumbers();
        aboutLeastAndMost();
        aboutNone();
        asNumbers();
        asKinds();
        end(1, 7);
    }

    private static void noTownAtFirst() {
        says(1, "No TOWN; nobody is SHUT OUT; the KEY is at PLACE 0, it is MINUTE 0");
        KeyOnStreet x = new KeyOnStreet();
        for (int what = 0; what <= 10; what++) {
            due("count(" + what + ")", x.count(what), 0);
        }
        due("fault()", x.fault(), 0);
        due("blank()", x.blank(), 0);
        due("forget()", x.forget(), 0);
        due("NONE", KeyOnStreet.NONE, -1);
        due("UNKNOWN", KeyOnStreet.UNKNOWN, -101);
        due("OUTSIDE", KeyOnStreet.OUTSIDE, -102);
        due("STATE", KeyOnStreet.STATE, -103);
        due("FULL", KeyOnStreet.FULL, -104);
    }

    private static void whatNeedsTownRefuses() {
        says(1, "No TOWN: no number names a HOUSE, and STATE");
        Supplier<KeyOnStreet> made = KeyOnStreet::new;
        refused("about(0, 0)", made, x -> x.about(0, 0), UNKNOWN);
        refused("as(0, 0)", made, x -> x.as(0, 0), UNKNOWN);
        refused("shut(0, true)", made, x -> x.shut(0, true), UNKNOWN);
        refused("shut(0, false)", made, x -> x.shut(0, false), UNKNOWN);
        refused("open(0)", made, x -> x.open(0), UNKNOWN);
        refused("see(0, 0, true)", made, x -> x.see(0, 0, true), UNKNOWN);
        refused("town()", made, x -> x.town(), STATE);
        refused("lay(5)", made, x -> x.lay(5), STATE);
        refused("pass(5)", made, x -> x.pass(5), STATE);
        refused("night()", made, x -> x.night(), STATE);
        refusedEach("next(#)", made, (x, law) -> x.next(law), STATE, 0, 1, 2);
        refusedEach("by(0, #)", made, (x, what) -> x.by(0, what), STATE, 0, 1, 2);
        refusedEach("best(#)", made, (x, what) -> x.best(what), STATE, 0, 1, 10, 15);
        refused("shortest()", made, x -> x.shortest(), STATE);
        refused("hang()", made, x -> x.hang(), STATE);
        refused("twoKeys()", made, x -> x.twoKeys(), STATE);
        refusedEach("guess(#)", made, (x, what) -> x.guess(what), STATE, 0, 1);
        refusedEach("nights(1, 1, #)", made, (x, what) -> x.nights(1, 1, what), STATE, 0, 1, 2);
        refused("image()", made, x -> x.image(), STATE);
        refused("restore()", made, x -> x.restore(), STATE);
    }

    private static void objectsStandAlone() {
        says(1, "A new object");
        KeyOnStreet one = busy();
        KeyOnStreet other = new KeyOnStreet();
        due("count(0) of another", other.count(0), 0);
        like("of another", other, new KeyOnStreet());
        like("of the one", one, busy());
    }

    private static void letterCodes() {
        says(2, "OUTSIDE: code (1 to 126)");
        // Some of these would be codes of a house again if they were cut to a byte or a char.
        int[] wrong = {MIN, -152, -1, 0, 127, 128, 255, 256 + 'h', 65536 + 'h', MAX};
        refusedEach("letter(#)", KeyOnStreet::new, (x, code) -> x.letter(code), OUTSIDE, wrong);
        refusedEach("letter(#) in use", Checks::busy, (x, code) -> x.letter(code), OUTSIDE, wrong);
        for (int code = 1; code <= 126; code++) {
            KeyOnStreet x = new KeyOnStreet();
            due("letter(" + code + ")", x.letter(code), 1);
            due("digest() with letter " + code, x.digest(), digestOfLetter(code));
        }
    }

    /** No town, one letter: all that count() tells is 0, but for that letter. */
    private static long digestOfLetter(int code) {
        long h = 823L * 31 + code;
        for (int what = 0; what <= 10; what++) {
            h = 31 * h + (what == 8 ? 1 : 0);
        }
        return h;
    }

    private static void letterFull() {
        says(2, "how many THE PAGE has; FULL: above 30");
        KeyOnStreet x = new KeyOnStreet();
        for (int i = 1; i <= 30; i++) {
            due("letter(" + i + ")", x.letter(i), i);
        }
        Supplier<KeyOnStreet> full = () -> write(in(STREET), "0".repeat(30));
        refusedEach("letter(#), the 31st", full, (y, code) -> y.letter(code), FULL, 1, 'h', 126);
        refusedEach("letter(#), the 31st", full, (y, code) -> y.letter(code), OUTSIDE, MIN, 0, 127, MAX);
        due("letter(1), the 31st", x.letter(1), FULL);
        due("letter(1), the 32nd", x.letter(1), FULL);
        x.blank();
        due("letter(1) behind blank()", x.letter(1), 1);
    }

    private static void blankPages() {
        says(3, "THE PAGE is empty: how many letters it had");
        KeyOnStreet x = new KeyOnStreet();
        due("blank() of none", x.blank(), 0);
        for (int many = 1; many <= 30; many++) {
            write(x, "h".repeat(many));
            due("blank() of " + many, x.blank(), many);
            due("count(8)", x.count(8), 0);
            due("blank() again", x.blank(), 0);
            x = new KeyOnStreet();
        }
        write(x, "h".repeat(40));
        due("blank() of a full one", x.blank(), 30);
        x = in(STREET);
        due("blank() behind town()", x.blank(), 0);
        x = page("h111,h111");
        x.town();
        due("blank() behind a town() that was refused", x.blank(), 9);
        x = busy();
        due("blank() in use", x.blank(), 2);
        due("fault()", x.fault(), 0);
        like("the town stays as it is", write(x, "h2"), busy());
    }

    /** What may stand at a place of a town, from the document's words. */
    private static boolean isOfTown(int place, int code) {
        String may = new String[] {"hmiwl", "0123456789", "123456789", "123456789", ","}[place % 5];
        return may.indexOf(code) >= 0;
    }

    private static void faultAtEachPlace() {
        says(4, "The place (from 0) of the first letter of THE PAGE that no TOWN has there");
        for (int place = 0; place < 29; place++) {
            for (int code = 1; code <= 126; code++) {
                KeyOnStreet x = page(SIX.substring(0, place) + (char) code);
                int want = isOfTown(place, code) ? place + 1 : place;
                due("fault() of " + code + " at " + place, x.fault(), want);
                x.letter('~');
                due("fault() of " + code + " at " + place + ", and more", x.fault(), want);
            }
        }
        for (int code = 1; code <= 126; code++) {
            due("fault() of " + code + " at 29", page(SIX + (char) code).fault(), 29);
        }
    }

    private static void faultEmptyAndFull() {
        says(4, "how many letters it has, if there is none");
        for (int many = 0; many <= 29; many++) {
            KeyOnStreet x = page(SIX.substring(0, many));
            due("fault() of " + many + " letters", x.fault(), many);
            due("fault() again", x.fault(), many);
            due("count(8)", x.count(8), many);
        }
        due("fault() of thirty wrong ones", page("?".repeat(30)).fault(), 0);
        due("fault() of two houses", page("h111,h111").fault(), 9);
        due("fault() of two faults", page("h1x1;").fault(), 2);
        KeyOnStreet x = in(STREET);
        due("fault() behind town()", x.fault(), 0);
        x = busy();
        due("fault() in use", x.fault(), 2);
        like("behind fault()", x, busy());
    }

    private static void townOfEachLength() {
        says(5, "three to six HOUSES with ',' between: how many HOUSES; STATE: it is none");
        for (int many = 0; many <= 29; many++) {
            String text = SIX.substring(0, many);
            KeyOnStreet x = page(text);
            boolean is = many == 14 || many == 19 || many == 24 || many == 29;
            due("town() of " + text, x.town(), is ? (many + 1) / 5 : STATE);
            due("count(0)", x.count(0), is ? (many + 1) / 5 : 0);
            due("count(8)", x.count(8), is ? 0 : many);
            due("count(9)", x.count(9), is ? 1 : 0);
        }
        due("town() of six and ','", page(SIX + ",").town(), STATE);
        due("town() of six and 'h'", page(SIX + "h").town(), STATE);
        due("town() of ',' ahead", page(",h111,h111,h111").town(), STATE);
        due("town() of a blank behind", page("h111,h111,h111 ").town(), STATE);
        KeyOnStreet x = in(SIX);
        due("town() of the empty page behind it", x.town(), STATE);
        due("count(0)", x.count(0), 6);
    }

    private static void townOfEachLetter() {
        says(5, "each a letter, the KIND, a digit PLACE (0 to 9), a digit LATEST (1 to 9), a digit PEOPLE (1 to 9)");
        for (int place = 0; place < 29; place++) {
            for (int code = 1; code <= 126; code++) {
                KeyOnStreet x = page(SIX.substring(0, place) + (char) code + SIX.substring(place + 1));
                int want = isOfTown(place, code) ? 6 : STATE;
                due("town() with " + code + " at " + place, x.town(), want);
            }
        }
    }

    private static void townRefusedChangesNothing() {
        says(5, "STATE: it is none");
        String[] none = {"", "h", "h111,h111", "h111,h111,", "h111,h111,h11", "h111,h111,h101", "h111,h111,h111,", SIX + ","};
        for (String text : none) {
            refused("town() of " + text, () -> page(text), x -> x.town(), STATE);
            Supplier<KeyOnStreet> used = () -> {
                KeyOnStreet x = busy();
                x.blank();
                return write(x, text);
            };
            refused("town() of " + text + " in use", used, x -> x.town(), STATE);
        }
    }

    private static void townPutsAllBack() {
        says(5, "another one is gone, with all that was; all is as at first");
        for (String text : new String[] {"w011,l022,i033", STREET, SIX}) {
            KeyOnStreet x = busy();
            x.blank();
            due("town()", write(x, text).town(), (text.length() + 1) / 5);
            for (int what = 1; what <= 8; what++) {
                due("count(" + what + ")", x.count(what), 0);
            }
            due("count(9)", x.count(9), 2);
            for (int house = 0; house < x.count(0); house++) {
                due("about(" + house + ", 4)", x.about(house, 4), NONE);
                due("about(" + house + ", 5)", x.about(house, 5), NONE);
                due("about(" + house + ", 6)", x.about(house, 6), 0);
                due("about(" + house + ", 7)", x.about(house, 7), 0);
            }
            due("restore()", x.restore(), STATE);
            // A street in which nothing was but one hang(): behind the next town() it must be like the busy one.
            KeyOnStreet y = in("h111,h111,h111");
            y.hang();
            write(y, text).town();
            like("in another town", x, y);
        }
    }

    private static void townOfOtherSize() {
        says(5, "THE PAGE is read as THE TOWN (another one is gone)");
        KeyOnStreet x = shutOut(in(SIX), 0, 1, 2, 3, 4, 5);
        write(x, "h111,h111,h111").town();
        due("about(2, 0)", x.about(2, 0), 0);
        due("about(3, 0)", x.about(3, 0), UNKNOWN);
        due("shut(5, true)", x.shut(5, true), UNKNOWN);
        // House 1 was a midwife, ahead of all others; now it is none.
        shutOut(x, 0, 1);
        due("next(0)", x.next(0), 0);
        due("open(0)", x.open(0), 2);
        write(x, SIX).town();
        due("about(5, 1)", x.about(5, 1), 9);
        due("shut(5, true)", x.shut(5, true), 0);
        due("about(6, 1)", x.about(6, 1), UNKNOWN);
    }

    private static void aboutNumbers() {
        says(6, "UNKNOWN; OUTSIDE");
        for (int houses = 3; houses <= 6; houses++) {
            String text = SIX.substring(0, 5 * houses - 1);
            Supplier<KeyOnStreet> scene = () -> in(text);
            int[] unknown = {MIN, -1, houses, houses + 1, MAX};
            refusedEach("about(#, 0)", scene, (x, house) -> x.about(house, 0), UNKNOWN, unknown);
            refusedEach("about(#, 8)", scene, (x, house) -> x.about(house, 8), UNKNOWN, unknown);
            int last = houses - 1;
            refusedEach("about(0, #)", scene, (x, what) -> x.about(0, what), OUTSIDE, MIN, -1, 8, MAX);
            refusedEach("about(last, #)", scene, (x, what) -> x.about(last, what), OUTSIDE, MIN, -1, 8, MAX);
            KeyOnStreet x = in(text);
            due("about(0, 0)", x.about(0, 0), 0);
            due("about(0, 7)", x.about(0, 7), 0);
            due("about(last, 1)", x.about(last, 1), text.charAt(text.length() - 3) - '0');
            due("about(last, 7)", x.about(last, 7), 0);
        }
        KeyOnStreet x = busy();
        for (int what = 0; what <= 7; what++) {
            x.about(4, what);
        }
        like("behind about()", x, busy());
    }

    private static void aboutLeastAndMost() {
        says(6, "0 KIND, 1 PLACE, 2 LATEST, 3 PEOPLE");
        KeyOnStreet x = in("h011,l999,m091,i919,w555");
        int[][] told = {{0, 0, 1, 1}, {4, 9, 9, 9}, {1, 0, 9, 1}, {2, 9, 1, 9}, {3, 5, 5, 5}};
        for (int house = 0; house < 5; house++) {
            for (int what = 0; what < 4; what++) {
                due("about(" + house + ", " + what + ")", x.about(house, what), told[house][what]);
            }
        }
    }

    private static void aboutNone() {
        says(6, "4 since which MINUTE it is SHUT OUT (NONE: it is not), 5 at which MINUTE they were IN last (NONE)");
        KeyOnStreet x = in("w011,h999,i011");
        due("about(0, 4) at first", x.about(0, 4), NONE);
        due("about(0, 5) at first", x.about(0, 5), NONE);
        x.shut(0, true);
        due("about(0, 4), minute 0 is a minute", x.about(0, 4), 0);
        due("about(0, 5), not in", x.about(0, 5), NONE);
        due("open(0), at the door of a widow", x.open(0), 0);
        due("about(0, 4), in", x.about(0, 4), NONE);
        due("about(0, 5), minute 0 is a minute", x.about(0, 5), 0);
        later(x, 999);
        x.shut(0, true);
        due("about(0, 4), the last minute that comes by pass()", x.about(0, 4), 999);
        due("about(0, 5), still", x.about(0, 5), 0);
        due("open(0)", x.open(0), 999);
        due("about(0, 5), the last time counts", x.about(0, 5), 999);
        due("about(0, 6)", x.about(0, 6), 995);
        x.shut(0, true);
        x.shut(0, false);
        due("about(0, 4), not any more", x.about(0, 4), NONE);
        due("about(0, 5), not by the key", x.about(0, 5), 999);
        x.night();
        due("about(0, 5), another night", x.about(0, 5), 999);
        due("about(0, 6), another night", x.about(0, 6), 995);
    }

    private static void asNumbers() {
        says(7, "UNKNOWN; OUTSIDE");
        for (int houses = 3; houses <= 6; houses++) {
            String text = SIX.substring(0, 5 * houses - 1);
            Supplier<KeyOnStreet> scene = () -> in(text);
            int[] unknown = {MIN, -1, houses, houses + 1, MAX};
            refusedEach("as(#, 0)", scene, (x, house) -> x.as(house, 0), UNKNOWN, unknown);
            refusedEach("as(#, 5)", scene, (x, house) -> x.as(house, 5), UNKNOWN, unknown);
            int last = houses - 1;
            refusedEach("as(last, #)", scene, (x, kind) -> x.as(last, kind), OUTSIDE, MIN, -1, 5, MAX);
            due("as(last, 0)", in(text).as(last, 0), last);
        }
        KeyOnStreet x = busy();
        x.as(2, 3);
        x.as(2, 1);
        like("behind as()", x, busy());
    }

    private static void asKinds() {
        says(7, "A HOUSE taken as a KIND: its number; NONE: it is none such; LOVERS are WIDOWS, too");
        KeyOnStreet x = in("l111,w111,i111,m111,h111");
        int[][] told = {
            {0, NONE, NONE, 0, 0},
            {1, NONE, NONE, 1, NONE},
            {2, NONE, 2, NONE, NONE},
            {3, 3, NONE, NONE, NONE},
            {4, NONE, NONE, NONE, NONE}};
        for (int house = 0; house < 5; house++) {
            for (int kind = 0; kind < 5; kind++) {
                due("as(" + house + ", " + kind + ")", x.as(house, kind), told[house][kind]);
            }
        }
    }
}
