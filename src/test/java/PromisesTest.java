import java.math.BigInteger;

/** Each promise by itself: ordinary inputs, the edges that the document names, wrong inputs. */
public final class PromisesTest extends Checks {
    private static final int[] WRONG = {Integer.MIN_VALUE, -1, 100, Integer.MAX_VALUE};

    public static void main(String[] args) {
        newObject();
        letters();
        blanks();
        faults();
        towns();
        abouts();
        casts();
        shuts();
        lays();
        passes();
        opens();
        openingWithLovers();
        nightFalls();
        nexts();
        bys();
        bests();
        shortests();
        hangs();
        twoKeys();
        sees();
        forgets();
        guesses();
        drawnNights();
        images();
        restores();
        counts();
        digests();
        end(1, 26);
    }

    /** Minute 2, the key at 0; the inn is shut out since 1; house, widow and lovers since 2. */
    private static KeyOnStreet inUse() {
        KeyOnStreet x = in(STREET);
        x.pass(1);
        x.shut(4, true);
        x.pass(1);
        x.shut(0, true);
        x.shut(1, true);
        x.shut(2, true);
        return x;
    }

    private static void newObject() {
        says(1, "A new object");
        due("NONE", KeyOnStreet.NONE, NONE);
        due("UNKNOWN", KeyOnStreet.UNKNOWN, UNKNOWN);
        due("OUTSIDE", KeyOnStreet.OUTSIDE, OUTSIDE);
        due("STATE", KeyOnStreet.STATE, STATE);
        due("FULL", KeyOnStreet.FULL, FULL);
        KeyOnStreet x = new KeyOnStreet();
        for (int what = 0; what <= 10; what++) {
            due("count(" + what + ")", x.count(what), 0);
        }
        due("about(0, 0)", x.about(0, 0), UNKNOWN);
        due("shut(0, true)", x.shut(0, true), UNKNOWN);
        due("open(0)", x.open(0), UNKNOWN);
        due("see(0, 0, true)", x.see(0, 0, true), UNKNOWN);
        due("town()", x.town(), STATE);
        due("forget()", x.forget(), 0);
    }

    private static void letters() {
        says(2, "letter");
        KeyOnStreet x = new KeyOnStreet();
        due("letter(0)", x.letter(0), OUTSIDE);
        due("letter(127)", x.letter(127), OUTSIDE);
        due("letter(min)", x.letter(Integer.MIN_VALUE), OUTSIDE);
        due("letter(max)", x.letter(Integer.MAX_VALUE), OUTSIDE);
        due("letter(1)", x.letter(1), 1);
        due("letter(126)", x.letter(126), 2);
        for (int i = 3; i <= 30; i++) {
            due("letter(65)", x.letter(65), i);
        }
        due("letter(65) above 30", x.letter(65), FULL);
        due("letter(0) above 30", x.letter(0), OUTSIDE);
        due("count(8)", x.count(8), 30);
    }

    private static void blanks() {
        says(3, "blank");
        KeyOnStreet x = new KeyOnStreet();
        due("blank()", x.blank(), 0);
        write(x, "h215");
        due("blank()", x.blank(), 4);
        due("count(8)", x.count(8), 0);
        due("blank()", x.blank(), 0);
        due("letter", x.letter('h'), 1);
    }

    private static void faultOf(String text, int want) {
        KeyOnStreet x = new KeyOnStreet();
        write(x, text);
        due("fault() of " + text, x.fault(), want);
        due("count(8)", x.count(8), text.length());
    }

    private static void faults() {
        says(4, "fault");
        faultOf("", 0);
        faultOf("x", 0);
        faultOf("H", 0);
        faultOf("5", 0);
        faultOf("h", 1);
        faultOf("h0", 2);
        faultOf("h9", 2);
        faultOf("h:", 1);
        faultOf("h/", 1);
        faultOf("h00", 2);
        faultOf("h01", 3);
        faultOf("h0:", 2);
        faultOf("h010", 3);
        faultOf("h019", 4);
        faultOf("h019;", 4);
        faultOf("h019,", 5);
        faultOf("h019,,", 5);
        faultOf("h011,m111,i211,w311,l411", 24);
        String six = "h011,m111,i211,w311,l411,h511";
        faultOf(six, 29);
        faultOf(six + ",", 29);
        faultOf(six + "h", 29);
        faultOf("x11,", 0);
    }

    private static void noTown(String text) {
        KeyOnStreet x = new KeyOnStreet();
        write(x, text);
        due("town() of " + text, x.town(), STATE);
        due("count(8)", x.count(8), text.length());
        due("count(9)", x.count(9), 0);
    }

    private static void towns() {
        says(5, "town");
        noTown("");
        noTown("h111,h111");
        noTown("h111,h111,");
        noTown("h111,h111,h11");
        noTown("h111,h111,h111,");
        noTown("h111,h111,x111");
        noTown("h111,h111,h101");
        noTown("h111;h111,h111");
        noTown("h111,h111,h111,h111,h111,h111,");
        in("h111,h111,h111");
        KeyOnStreet x = in("h111,h111,h111,h111,h111,h111");
        due("count(8)", x.count(8), 0);
        x.pass(7);
        x.shut(5, true);
        x.open(5);
        x.shut(1, true);
        x.night();
        x.pass(2);
        x.see(0, 3, true);
        x.image();
        x.hang();
        write(x, "w011,l022,i033");
        due("town() again", x.town(), 3);
        for (int what = 1; what <= 8; what++) {
            due("count(" + what + ") in another town", x.count(what), 0);
        }
        due("count(9)", x.count(9), 2);
        due("count(10)", x.count(10), 1);
        due("about(5, 0)", x.about(5, 0), UNKNOWN);
        due("about(1, 4)", x.about(1, 4), NONE);
        due("about(1, 5)", x.about(1, 5), NONE);
        due("about(1, 6)", x.about(1, 6), 0);
        due("about(1, 7)", x.about(1, 7), 0);
        due("restore()", x.restore(), STATE);
        x.shut(0, true);
        due("town() without letters", x.town(), STATE);
        due("count(1)", x.count(1), 1);
    }

    private static void abouts() {
        says(6, "about");
        KeyOnStreet x = in(STREET);
        int[][] told = {{0, 2, 1, 5}, {3, 5, 3, 3}, {4, 7, 2, 2}, {1, 9, 1, 4}, {2, 6, 1, 1}};
        int[] atFirst = {NONE, NONE, 0, 0};
        for (int house = 0; house < 5; house++) {
            for (int what = 0; what <= 7; what++) {
                due("about(" + house + ", " + what + ")", x.about(house, what), what < 4 ? told[house][what] : atFirst[what - 4]);
            }
        }
        due("about(0, 8)", x.about(0, 8), OUTSIDE);
        due("about(0, -1)", x.about(0, -1), OUTSIDE);
        due("about(5, 0)", x.about(5, 0), UNKNOWN);
        for (int number : WRONG) {
            due("about(wrong, wrong)", x.about(number, number), UNKNOWN);
            due("about(0, wrong)", x.about(0, number), OUTSIDE);
        }
    }

    private static void casts() {
        says(7, "as");
        KeyOnStreet x = in(STREET);
        String[] kinds = {"h", "hw", "hwl", "hm", "hi"};
        for (int house = 0; house < 5; house++) {
            for (int kind = 0; kind <= 4; kind++) {
                boolean is = kinds[house].indexOf("hmiwl".charAt(kind)) >= 0;
                due("as(" + house + ", " + kind + ")", x.as(house, kind), is ? house : NONE);
            }
        }
        due("as(0, 5)", x.as(0, 5), OUTSIDE);
        due("as(5, 5)", x.as(5, 5), UNKNOWN);
        for (int number : WRONG) {
            due("as(wrong, 0)", x.as(number, 0), UNKNOWN);
            due("as(0, wrong)", x.as(0, number), OUTSIDE);
        }
    }

    private static void shuts() {
        says(8, "shut");
        KeyOnStreet x = in(STREET);
        x.pass(3);
        due("shut(1, false)", x.shut(1, false), 0);
        due("shut(1, true)", x.shut(1, true), 0);
        x.pass(4);
        due("shut(1, true) again", x.shut(1, true), 1);
        due("about(1, 4)", x.about(1, 4), 3);
        due("count(1)", x.count(1), 1);
        due("shut(1, false)", x.shut(1, false), 1);
        due("about(1, 4)", x.about(1, 4), NONE);
        due("about(1, 5)", x.about(1, 5), NONE);
        due("shut(1, true)", x.shut(1, true), 0);
        due("about(1, 4)", x.about(1, 4), 7);
        due("shut(5, true)", x.shut(5, true), UNKNOWN);
        for (int number : WRONG) {
            due("shut(wrong, true)", x.shut(number, true), UNKNOWN);
        }
        due("count(1)", x.count(1), 1);
    }

    private static void lays() {
        says(9, "lay");
        KeyOnStreet x = new KeyOnStreet();
        due("lay(10) without a town", x.lay(10), OUTSIDE);
        due("lay(3) without a town", x.lay(3), STATE);
        x = in(STREET);
        due("lay(9)", x.lay(9), 0);
        due("lay(0)", x.lay(0), 9);
        due("lay(4)", x.lay(4), 0);
        for (int number : WRONG) {
            due("lay(wrong)", x.lay(number), OUTSIDE);
        }
        due("count(2)", x.count(2), 4);
        x.shut(2, true);
        due("open(2)", x.open(2), 3);
        due("count(4)", x.count(4), 8);
        due("lay(10)", x.lay(10), OUTSIDE);
        due("count(4)", x.count(4), 8);
        due("lay(7)", x.lay(7), 7);
        due("count(4)", x.count(4), 0);
        due("count(3)", x.count(3), 3);
        x.shut(4, true);
        due("open(4), which nobody delays", x.open(4), 5);
    }

    private static void passes() {
        says(10, "pass");
        KeyOnStreet x = new KeyOnStreet();
        due("pass(31) without a town", x.pass(31), OUTSIDE);
        due("pass(1) without a town", x.pass(1), STATE);
        x = in(STREET);
        due("pass(0)", x.pass(0), OUTSIDE);
        due("pass(31)", x.pass(31), OUTSIDE);
        due("pass(max)", x.pass(Integer.MAX_VALUE), OUTSIDE);
        due("pass(min)", x.pass(Integer.MIN_VALUE), OUTSIDE);
        for (int i = 1; i <= 33; i++) {
            due("pass(30)", x.pass(30), 30 * i);
        }
        due("pass(10) above 999", x.pass(10), STATE);
        due("count(3)", x.count(3), 990);
        due("pass(9)", x.pass(9), 999);
        due("pass(1) above 999", x.pass(1), STATE);
        x.shut(0, true);
        due("open(0) may go above 999", x.open(0), 1002);
        due("pass(1) above 999", x.pass(1), STATE);
    }

    private static void opens() {
        says(11, "open");
        KeyOnStreet x = in(STREET);
        due("open(1), not shut out", x.open(1), STATE);
        due("open(5)", x.open(5), UNKNOWN);
        for (int number : WRONG) {
            due("open(wrong)", x.open(number), UNKNOWN);
        }
        x.shut(1, true);
        due("open(1), a widow", x.open(1), 5);
        due("about(1, 4)", x.about(1, 4), NONE);
        due("about(1, 5)", x.about(1, 5), 5);
        due("about(1, 6)", x.about(1, 6), 0);
        due("open(1) again", x.open(1), STATE);
        x.shut(0, true);
        due("open(0)", x.open(0), 9);
        due("about(0, 6)", x.about(0, 6), 25);
        due("count(2)", x.count(2), 2);
        due("count(3)", x.count(3), 9);
        x.shut(3, true);
        x.shut(0, true);
        x.shut(1, true);
        due("open(0) while a midwife is out", x.open(0), STATE);
        due("open(1) while a midwife is out", x.open(1), STATE);
        due("open(3)", x.open(3), 17);
        due("about(3, 6)", x.about(3, 6), 52);
        due("open(0)", x.open(0), 25);
        due("about(0, 6)", x.about(0, 6), 130);
        due("open(1)", x.open(1), 28);
        due("about(1, 6)", x.about(1, 6), 48);
        due("count(5)", x.count(5), 230);
    }

    private static void openingWithLovers() {
        KeyOnStreet x = in(STREET);
        x.shut(2, true);
        due("open(2), lovers", x.open(2), 7);
        due("count(4)", x.count(4), 12);
        x.shut(4, true);
        x.pass(2);
        due("open(4), which lovers delay", x.open(4), 14);
        due("an inn is never late", x.about(4, 6), 0);
        due("count(4)", x.count(4), 0);
        x.shut(2, true);
        due("open(2)", x.open(2), 15);
        due("about(2, 6)", x.about(2, 6), 14);
        x.pass(9);
        due("count(4) is told on", x.count(4), 20);
        x.shut(1, true);
        due("open(1), when they gave it away", x.open(1), 26);
        x.shut(2, true);
        due("open(2)", x.open(2), 28);
        x.shut(2, true);
        due("open(2), who keep it themselves", x.open(2), 33);
        due("count(4)", x.count(4), 38);
        KeyOnStreet two = in("m111,m911,h511");
        two.shut(0, true);
        two.shut(1, true);
        due("open(1), one midwife ahead of another", two.open(1), 10);
        due("open(0)", two.open(0), 19);
    }

    private static void nightFalls() {
        says(12, "night");
        due("night() without a town", new KeyOnStreet().night(), STATE);
        KeyOnStreet x = in(STREET);
        due("night()", x.night(), 0);
        x.shut(2, true);
        x.open(2);
        x.shut(0, true);
        x.shut(4, true);
        x.shut(3, true);
        x.pass(5);
        due("night()", x.night(), 9);
        due("about(0, 7)", x.about(0, 7), 5);
        due("about(3, 7)", x.about(3, 7), 4);
        due("about(4, 7)", x.about(4, 7), 0);
        due("about(2, 7)", x.about(2, 7), 0);
        due("about(0, 4)", x.about(0, 4), 0);
        due("about(4, 4)", x.about(4, 4), 0);
        due("about(1, 4)", x.about(1, 4), NONE);
        due("about(2, 5)", x.about(2, 5), 7);
        due("count(2)", x.count(2), 7);
        due("count(3)", x.count(3), 0);
        due("count(4)", x.count(4), 0);
        x.shut(3, false);
        due("night()", x.night(), 5);
        due("about(0, 7)", x.about(0, 7), 10);
        due("count(6)", x.count(6), 14);
        due("open(0), nobody keeps the key", x.open(0), 6);
    }

    private static void nexts() {
        says(13, "next");
        KeyOnStreet x = new KeyOnStreet();
        due("next(3) without a town", x.next(3), OUTSIDE);
        due("next(0) without a town", x.next(0), STATE);
        x = in(STREET);
        for (int law = 0; law <= 2; law++) {
            due("next(" + law + ")", x.next(law), NONE);
        }
        x = inUse();
        due("next(0)", x.next(0), 4);
        due("next(1)", x.next(1), 0);
        due("next(2), like ones", x.next(2), 0);
        x.lay(6);
        due("next(1)", x.next(1), 4);
        x.shut(4, false);
        due("next(1), like ones", x.next(1), 1);
        due("next(0), like ones", x.next(0), 0);
        x.shut(0, false);
        due("next(2)", x.next(2), 2);
        x.shut(3, true);
        for (int law = 0; law <= 2; law++) {
            due("next(" + law + ") with a midwife", x.next(law), 3);
        }
        for (int number : WRONG) {
            due("next(wrong)", x.next(number), OUTSIDE);
        }
    }

    private static void bys() {
        says(14, "by");
        KeyOnStreet x = new KeyOnStreet();
        due("by(0, 3) without a town", x.by(0, 3), OUTSIDE);
        due("by(0, 0) without a town", x.by(0, 0), STATE);
        x = inUse();
        int[][] told = {{87, 19, 7}, {11, 11, 7}, {29, 18, 5}};
        for (int law = 0; law <= 2; law++) {
            for (int what = 0; what <= 2; what++) {
                due("by(" + law + ", " + what + ")", x.by(law, what), told[law][what]);
            }
            due("by(law, 3)", x.by(law, 3), OUTSIDE);
        }
        due("count(1)", x.count(1), 4);
        due("count(3)", x.count(3), 2);
        due("count(5)", x.count(5), 0);
        for (int number : WRONG) {
            due("by(wrong, 0)", x.by(number, 0), OUTSIDE);
            due("by(0, wrong)", x.by(0, number), OUTSIDE);
        }
        x = in(STREET);
        x.pass(3);
        x.lay(6);
        due("by(1, 0), nobody out", x.by(1, 0), 0);
        due("by(1, 1), nobody out", x.by(1, 1), 3);
        due("by(1, 2), nobody out", x.by(1, 2), 6);
        x.shut(0, true);
        x.open(0);
        x.shut(0, true);
        due("by(1, 0), without what was late before", x.by(1, 0), 25);
    }

    private static void bests() {
        says(15, "best");
        KeyOnStreet x = new KeyOnStreet();
        due("best(2) without a town", x.best(2), OUTSIDE);
        due("best(0) without a town", x.best(0), STATE);
        x = inUse();
        int[] order = {0, 1, 2, 4, NONE, NONE};
        due("best(0)", x.best(0), 9);
        due("best(1)", x.best(1), 17);
        for (int i = 0; i < 6; i++) {
            due("best(" + (10 + i) + ")", x.best(10 + i), order[i]);
        }
        for (int what : new int[] {Integer.MIN_VALUE, -1, 2, 9, 16, Integer.MAX_VALUE}) {
            due("best(" + what + ")", x.best(what), OUTSIDE);
        }
        x.shut(3, true);
        due("best(10), a midwife first", x.best(10), 3);
        // None is late whatever the order: the earliest end counts, then the numbers.
        x = in("i511,i111,i411");
        x.shut(0, true);
        x.shut(1, true);
        x.shut(2, true);
        due("best(0)", x.best(0), 0);
        due("best(1)", x.best(1), 8);
        due("best(10)", x.best(10), 1);
        due("best(11)", x.best(11), 2);
        due("best(12)", x.best(12), 0);
        x = in("w011,w011,w011,w011,w011,w011");
        for (int i = 5; i >= 0; i--) {
            x.shut(i, true);
        }
        for (int i = 0; i < 6; i++) {
            due("best(" + (10 + i) + "), like ones", x.best(10 + i), i);
        }
        x = in(STREET);
        x.pass(4);
        due("best(0), nobody out", x.best(0), 0);
        due("best(1), nobody out", x.best(1), 4);
        due("best(10), nobody out", x.best(10), NONE);
    }

    private static void shortests() {
        says(16, "shortest");
        due("shortest() without a town", new KeyOnStreet().shortest(), STATE);
        KeyOnStreet x = inUse();
        x.best(0);
        due("shortest(), not the best round", x.shortest(), 11);
        x.shut(3, true);
        due("shortest(), a midwife first", x.shortest(), 26);
        x = in(STREET);
        x.pass(6);
        due("shortest(), nobody out", x.shortest(), 6);
        x.shut(2, true);
        x.open(2);
        x.shut(1, true);
        due("shortest(), kept by lovers", x.shortest(), 20);
    }

    private static void hangs() {
        says(17, "hang");
        KeyOnStreet x = new KeyOnStreet();
        due("hang() without a town", x.hang(), STATE);
        due("count(10)", x.count(10), 0);
        x = inUse();
        due("hang()", x.hang(), 2);
        due("count(10)", x.count(10), 1);
        due("count(2)", x.count(2), 0);
        x.shut(0, false);
        x.shut(1, false);
        x.shut(2, false);
        due("hang() for an inn", x.hang(), 0);
        x.pass(6);
        x.shut(3, true);
        due("hang() at the door", x.hang(), 9);
        x.shut(3, false);
        for (int i = 4; i <= 30; i++) {
            due("hang()", x.hang(), 0);
        }
        due("hang() for the 31st time", x.hang(), STATE);
        due("count(10)", x.count(10), 30);
        // Kept until 5: whoever is in by 8 is not late, so three away will do.
        x = in("l011,h921,h111");
        x.shut(0, true);
        x.open(0);
        x.shut(1, true);
        due("hang(), kept as it is", x.hang(), 7);
    }

    private static void twoKeys() {
        says(18, "twoKeys");
        due("twoKeys() without a town", new KeyOnStreet().twoKeys(), STATE);
        KeyOnStreet x = in(STREET);
        x.pass(8);
        due("twoKeys(), nobody out", x.twoKeys(), 8);
        x = inUse();
        due("twoKeys()", x.twoKeys(), 10);
        x.shut(3, true);
        due("twoKeys(), a midwife like others", x.twoKeys(), 12);
        x = in("h011,h911,h411");
        x.lay(4);
        x.shut(0, true);
        x.shut(1, true);
        due("twoKeys() both ways", x.twoKeys(), 6);
        due("shortest()", x.shortest(), 15);
        x.shut(0, false);
        due("twoKeys() for one", x.twoKeys(), 6);
        x = in("l411,h911,h011");
        x.shut(0, true);
        x.open(0);
        x.shut(1, true);
        x.shut(2, true);
        due("twoKeys(), both kept by lovers", x.twoKeys(), 15);
        x = in("l319,l319,h491,h491");
        x.pass(2);
        for (int house = 0; house < 4; house++) {
            x.shut(house, true);
        }
        x.best(0);
        due("twoKeys(), whoever is late", x.twoKeys(), 8);
        x = in("m911,m011,h711,h211");
        x.lay(5);
        for (int house = 0; house < 4; house++) {
            x.shut(house, true);
        }
        x.best(0);
        due("twoKeys(), nobody waits for midwives", x.twoKeys(), 7);
    }

    private static void sees() {
        says(19, "see");
        KeyOnStreet x = in(STREET);
        due("see(5, 0, true)", x.see(5, 0, true), UNKNOWN);
        due("see(5, 1000, true)", x.see(5, 1000, true), UNKNOWN);
        due("see(0, -1, true)", x.see(0, -1, true), OUTSIDE);
        due("see(0, 1000, true)", x.see(0, 1000, true), OUTSIDE);
        due("see(0, 0, true)", x.see(0, 0, true), 1);
        due("see(4, 999, false)", x.see(4, 999, false), 2);
        for (int i = 3; i <= 6; i++) {
            due("see(1, 1, true)", x.see(1, 1, true), i);
        }
        due("see(1, 1, true), the seventh", x.see(1, 1, true), FULL);
        due("see(1, 1000, true), the seventh", x.see(1, 1000, true), OUTSIDE);
        due("see(-1, 1, true), the seventh", x.see(-1, 1, true), UNKNOWN);
        due("count(7)", x.count(7), 6);
    }

    private static void forgets() {
        says(20, "forget");
        KeyOnStreet x = in(STREET);
        due("forget()", x.forget(), 0);
        x.see(0, 1, true);
        x.see(0, 1, true);
        due("forget()", x.forget(), 2);
        due("count(7)", x.count(7), 0);
        due("guess(0)", x.guess(0), 30);
        due("see(0, 1, true)", x.see(0, 1, true), 1);
    }

    private static void guesses() {
        says(21, "guess");
        KeyOnStreet x = new KeyOnStreet();
        due("guess(2) without a town", x.guess(2), OUTSIDE);
        due("guess(0) without a town", x.guess(0), STATE);
        x = in(STREET);
        for (int number : WRONG) {
            due("guess(wrong)", x.guess(number), OUTSIDE);
        }
        due("guess(0), nothing seen", x.guess(0), 30);
        due("guess(1), nothing seen", x.guess(1), 0);
        x.shut(0, true);
        x.shut(1, true);
        x.see(1, 3, true);
        due("guess(0)", x.guess(0), 5);
        due("guess(1)", x.guess(1), 13);
        x.see(0, 9, false);
        due("guess(0), contradicted", x.guess(0), 0);
        due("guess(1), contradicted", x.guess(1), NONE);
        x.forget();
        x.see(4, 999, false);
        due("guess(0), never in", x.guess(0), 30);
        x.see(4, 999, true);
        due("guess(0), never in", x.guess(0), 0);
        // Who was in by an opening, but is not shut out now, is not in by a guess.
        x = in(STREET);
        x.shut(0, true);
        x.open(0);
        x.see(0, 999, true);
        due("guess(0), in before", x.guess(0), 0);
        x.forget();
        // The key goes from minute 0, whichever it is and since whenever they wait.
        x.pass(20);
        x.shut(1, true);
        x.see(1, 0, true);
        due("guess(0), at the door", x.guess(0), 3);
        due("guess(1), at the door", x.guess(1), 15);
        x = in(STREET);
        x.shut(1, true);
        x.pass(1);
        x.shut(0, true);
        x.see(0, 1, true);
        due("guess(1), by whose turn it is", x.guess(1), 7);
        due("guess(0), by whose turn it is", x.guess(0), 2);
    }

    private static final BigInteger FACTOR = BigInteger.valueOf(1103515245);
    private static final BigInteger MORE = BigInteger.valueOf(12345);
    private static final BigInteger REST = BigInteger.ONE.shiftLeft(31);

    private static void drawnNights() {
        says(22, "nights");
        KeyOnStreet x = new KeyOnStreet();
        due("nights(0, 0, 0) without a town", x.nights(0, 0, 0), OUTSIDE);
        due("nights(1, 0, 0) without a town", x.nights(1, 0, 0), STATE);
        x = in("h911,h911,h911");
        due("nights(0, 0, 0)", x.nights(0, 0, 0), OUTSIDE);
        due("nights(61, 0, 0)", x.nights(61, 0, 0), OUTSIDE);
        due("nights(1, -1, 0)", x.nights(1, -1, 0), OUTSIDE);
        due("nights(1, 0, -1)", x.nights(1, 0, -1), OUTSIDE);
        due("nights(1, 0, 3)", x.nights(1, 0, 3), OUTSIDE);
        for (int seed : new int[] {0, 1, 77, 5000, Integer.MAX_VALUE}) {
            nightsOfOneDoor(x, 1, seed);
            nightsOfOneDoor(x, 60, seed);
        }
        due("count(1)", x.count(1), 0);
        due("count(2)", x.count(2), 0);
        // By seeds 0 and 7 nobody is shut out: the key stays where it was laid.
        x.lay(4);
        due("nights(1, 0, 1)", x.nights(1, 0, 1), placeAfterOneNight(0, 4));
        due("nights(1, 5, 1)", x.nights(1, 5, 1), placeAfterOneNight(5, 4));
        due("nights(1, 7, 1)", x.nights(1, 7, 1), placeAfterOneNight(7, 4));
    }

    private static int placeAfterOneNight(int seed, int place) {
        BigInteger s = BigInteger.valueOf(seed);
        boolean somebody = false;
        for (int house = 0; house < 3; house++) {
            s = s.multiply(FACTOR).add(MORE).mod(REST);
            somebody |= s.shiftRight(16).testBit(0);
        }
        return somebody ? 9 : place;
    }

    /** With all at one door what is late follows from how many are out, by whichever law. */
    private static void nightsOfOneDoor(KeyOnStreet x, int nights, int seed) {
        BigInteger s = BigInteger.valueOf(seed);
        int place = 0;
        int late = 0;
        for (int i = 0; i < nights; i++) {
            int minute = 0;
            for (int house = 0; house < 3; house++) {
                s = s.multiply(FACTOR).add(MORE).mod(REST);
                if (s.shiftRight(16).testBit(0)) {
                    minute += 9 - place + 1;
                    place = 9;
                    late += Math.max(0, minute - 4);
                }
            }
            s = s.multiply(FACTOR).add(MORE).mod(REST);
        }
        due("nights(" + nights + ", " + seed + ", 0)", x.nights(nights, seed, 0), late);
        due("nights(" + nights + ", " + seed + ", 1)", x.nights(nights, seed, 1), place);
        due("nights(" + nights + ", " + seed + ", 2)", x.nights(nights, seed, 2), s.intValueExact());
    }

    private static void images() {
        says(23, "image");
        KeyOnStreet x = new KeyOnStreet();
        due("image() without a town", x.image(), STATE);
        due("restore()", x.restore(), STATE);
        x = in(STREET);
        due("image()", x.image(), 0);
        x.pass(5);
        due("image()", x.image(), 5);
        x.pass(5);
        due("restore(), the latest", x.restore(), 5);
    }

    private static void restores() {
        says(24, "restore");
        KeyOnStreet x = in(STREET);
        due("restore() without an image", x.restore(), STATE);
        x.shut(0, true);
        x.night();
        x.shut(2, true);
        x.open(2);
        x.shut(1, true);
        x.see(1, 8, true);
        x.image();
        long then = x.digest();
        x.open(0);
        x.lay(9);
        x.night();
        x.shut(3, true);
        x.see(3, 8, true);
        x.forget();
        x.see(0, 1, false);
        due("restore()", x.restore(), 7);
        due("digest()", x.digest(), then);
        due("count(4)", x.count(4), 12);
        due("about(1, 4)", x.about(1, 4), 7);
        due("count(6)", x.count(6), 5);
        x.pass(30);
        due("restore() again", x.restore(), 7);
        x.letter('h');
        x.hang();
        x.restore();
        due("count(8) is no part of it", x.count(8), 1);
        due("count(10) is no part of it", x.count(10), 1);
        x.blank();
        write(x, STREET);
        due("town() that is the same", x.town(), 5);
        due("restore() in another town", x.restore(), STATE);
        due("count(3)", x.count(3), 0);
    }

    private static void counts() {
        says(25, "count");
        KeyOnStreet x = inUse();
        due("count(0)", x.count(0), 5);
        due("count(1)", x.count(1), 4);
        x.night();
        x.open(2);
        x.open(0);
        x.see(0, 0, true);
        x.letter(1);
        x.letter(2);
        x.hang();
        int[] told = {5, 2, 2, 18, 0, 70, 10, 1, 2, 1, 1};
        for (int what = 0; what <= 10; what++) {
            due("count(" + what + ")", x.count(what), told[what]);
        }
        due("count(-1)", x.count(-1), OUTSIDE);
        due("count(11)", x.count(11), OUTSIDE);
        due("count(min)", x.count(Integer.MIN_VALUE), OUTSIDE);
        due("count(max)", x.count(Integer.MAX_VALUE), OUTSIDE);
    }

    /** The digest put together from what the other calls tell. */
    private static long toldTogether(KeyOnStreet x, String page) {
        StringBuilder told = new StringBuilder();
        for (int house = 0; house < x.count(0); house++) {
            for (int what = 0; what <= 7; what++) {
                told.append(x.about(house, what)).append(' ');
            }
        }
        if (x.count(0) > 0) {
            for (int law = 0; law <= 2; law++) {
                told.append(x.next(law)).append(' ');
                for (int what = 0; what <= 2; what++) {
                    told.append(x.by(law, what)).append(' ');
                }
            }
            told.append(x.best(0)).append(' ').append(x.best(1)).append(' ').append(x.best(10)).append(' ');
            told.append(x.shortest()).append(' ').append(x.guess(0)).append(' ').append(x.guess(1)).append(' ');
        }
        for (int i = 0; i < page.length(); i++) {
            told.append((int) page.charAt(i)).append(' ');
        }
        for (int what = 0; what <= 10; what++) {
            told.append(x.count(what)).append(' ');
        }
        long h = 823;
        for (String number : told.toString().trim().split(" ")) {
            h = 31 * h + Long.parseLong(number);
        }
        return h;
    }

    private static void digests() {
        says(26, "digest");
        KeyOnStreet x = new KeyOnStreet();
        long first = 823;
        for (int i = 0; i < 11; i++) {
            first = 31 * first;
        }
        due("digest() of a new object", x.digest(), first);
        write(x, "h~");
        due("digest() with letters", x.digest(), toldTogether(x, "h~"));
        x = inUse();
        due("digest()", x.digest(), toldTogether(x, ""));
        due("digest() again", x.digest(), toldTogether(x, ""));
        x.open(2);
        x.see(1, 4, true);
        x.hang();
        write(x, ",,9");
        due("digest()", x.digest(), toldTogether(x, ",,9"));
        x.night();
        due("digest()", x.digest(), toldTogether(x, ",,9"));
    }
}
