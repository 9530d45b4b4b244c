import java.util.ArrayList;
import java.util.Arrays;
import java.util.Collections;
import java.util.HashMap;
import java.util.List;
import java.util.Map;
import java.util.Random;
import java.util.regex.Matcher;
import java.util.regex.Pattern;

/** Long drawn runs of calls, each answer beside that of a second, plain writing of the document. */
public final class ModelTest {
    private static final int RUNS = 400;
    /** What an object answers to later calls is free. */
    private static final int CALLS = 512;
    private static final int CALLS_FOR_A_DIGEST = 8;

    private static final Map<String, Integer> calls = new HashMap<>();
    private static final List<String> told = new ArrayList<>();
    private static int wrong;

    public static void main(String[] args) {
        for (int run = 0; run < RUNS && wrong == 0; run++) {
            run(new Random(run), run);
        }
        // A promise that the runs hardly touch is not tested by them.
        for (String call : CALLS_OF_FACE) {
            if (calls.getOrDefault(call + " answered", 0) < 100) {
                wrong++;
                System.out.println(call + " was answered only " + calls.getOrDefault(call + " answered", 0) + " times");
            }
        }
        System.out.println(wrong == 0 ? "answers agree: " + calls.values().stream().mapToInt(Integer::intValue).sum() + " calls" : "answers differ");
        System.exit(wrong == 0 ? 0 : 1);
    }

    private static final String[] CALLS_OF_FACE = {
        "letter", "blank", "fault", "town", "about", "as", "shut", "lay", "pass", "open", "night", "next", "by", "best",
        "shortest", "hang", "twoKeys", "see", "forget", "guess", "nights", "image", "restore", "count", "digest"};

    private static void run(Random random, int run) {
        KeyOnStreet x = new KeyOnStreet();
        Plain y = new Plain();
        told.clear();
        String pending = "";
        for (int i = 1; i <= CALLS && wrong == 0; i++) {
            if (i % CALLS_FOR_A_DIGEST == 0) {
                compare(run, "digest", new int[3], x, y);
                continue;
            }
            if (pending.isEmpty() && (y.houses.isEmpty() ? random.nextInt(8) == 0 : random.nextInt(150) == 0)) {
                pending = drawTown(random);
            }
            String name;
            if (!pending.isEmpty() && random.nextInt(20) != 0) {
                int code = pending.charAt(0);
                pending = pending.substring(1);
                name = code == '!' ? "town" : code == '?' ? "blank" : "letter";
                compare(run, name, new int[] {code, 0, 0}, x, y);
                continue;
            }
            name = CALLS_OF_FACE[random.nextInt(CALLS_OF_FACE.length)];
            boolean spoils = name.equals("letter") || name.equals("blank");
            if (spoils && !pending.isEmpty() || name.equals("night") && random.nextInt(3) > 0) {
                continue;
            }
            if (random.nextInt(3) == 0) {
                name = random.nextInt(3) > 0 ? "shut" : "open";
            }
            compare(run, name, drawArguments(random, name), x, y);
        }
    }

    private static String drawTown(Random random) {
        StringBuilder text = new StringBuilder("?");
        int houses = random.nextInt(10) == 0 ? 1 + random.nextInt(6) : 3 + random.nextInt(4);
        int span = 1 + random.nextInt(10);
        for (int i = 0; i < houses; i++) {
            text.append(i == 0 ? "" : ",").append("hmiwl".charAt(random.nextInt(5)));
            text.append(random.nextInt(span)).append(1 + random.nextInt(random.nextBoolean() ? 3 : 9));
            text.append(1 + random.nextInt(9));
        }
        if (random.nextInt(8) == 0) {
            text.setCharAt(1 + random.nextInt(text.length() - 1), "hmiwl0129,;x".charAt(random.nextInt(12)));
        }
        if (random.nextInt(12) == 0) {
            text.append(",h111".substring(0, 1 + random.nextInt(5)));
        }
        return text.append('!').toString();
    }

    private static int[] drawArguments(Random random, String name) {
        int[] most = switch (name) {
            case "letter" -> new int[] {126, 0, 0};
            case "about" -> new int[] {5, 7, 0};
            case "as" -> new int[] {5, 4, 0};
            case "shut", "open" -> new int[] {5, 3, 0};
            case "lay" -> new int[] {9, 0, 0};
            case "pass" -> new int[] {random.nextInt(4) == 0 ? 30 : 5, 0, 0};
            case "by" -> new int[] {2, 2, 0};
            case "best" -> new int[] {random.nextBoolean() ? 15 : 1, 0, 0};
            case "see" -> new int[] {5, random.nextInt(6) == 0 ? 999 : 25, 1};
            case "nights" -> new int[] {60, 1 << random.nextInt(31), 2};
            case "count" -> new int[] {10, 0, 0};
            default -> new int[] {2, 2, 2};
        };
        int[] drawn = new int[3];
        for (int i = 0; i < 3; i++) {
            drawn[i] = switch (random.nextInt(40)) {
                case 0 -> Integer.MIN_VALUE + random.nextInt(2);
                case 1 -> Integer.MAX_VALUE - random.nextInt(2);
                case 2 -> most[i] + 1;
                case 3 -> -1;
                case 4 -> most[i];
                default -> random.nextInt(Math.max(1, most[i] + 1));
            };
        }
        return drawn;
    }

    private static void compare(int run, String name, int[] a, KeyOnStreet x, Plain y) {
        long got = call(x, name, a[0], a[1], a[2]);
        long want = y.call(name, a[0], a[1], a[2]);
        told.add(name + Arrays.toString(a) + " -> " + got);
        calls.merge(name + (want <= -101 && !name.equals("digest") ? " refused" : " answered"), 1, Integer::sum);
        if (got != want) {
            wrong++;
            told.forEach(System.out::println);
            System.out.println("run " + run + ": due is " + want);
        }
    }

    private static long call(KeyOnStreet x, String name, int a, int b, int c) {
        return switch (name) {
            case "letter" -> x.letter(a);
            case "blank" -> x.blank();
            case "fault" -> x.fault();
            case "town" -> x.town();
            case "about" -> x.about(a, b);
            case "as" -> x.as(a, b);
            case "shut" -> x.shut(a, b % 4 != 0);
            case "lay" -> x.lay(a);
            case "pass" -> x.pass(a);
            case "open" -> x.open(a);
            case "night" -> x.night();
            case "next" -> x.next(a);
            case "by" -> x.by(a, b);
            case "best" -> x.best(a);
            case "shortest" -> x.shortest();
            case "hang" -> x.hang();
            case "twoKeys" -> x.twoKeys();
            case "see" -> x.see(a, b, c % 2 != 0);
            case "forget" -> x.forget();
            case "guess" -> x.guess(a);
            case "nights" -> x.nights(a, b, c);
            case "image" -> x.image();
            case "restore" -> x.restore();
            case "count" -> x.count(a);
            default -> x.digest();
        };
    }

    /** What can change on a street, in maps by the house's number. */
    private static final class Scene {
        Map<Integer, Integer> since = new HashMap<>();
        Map<Integer, Integer> in = new HashMap<>();
        Map<Integer, Integer> late = new HashMap<>();
        Map<Integer, Integer> out = new HashMap<>();
        List<int[]> seen = new ArrayList<>();
        int place;
        int minute;
        int kept;

        Scene copy() {
            Scene s = new Scene();
            s.since.putAll(since);
            s.in.putAll(in);
            s.late.putAll(late);
            s.out.putAll(out);
            s.seen.addAll(seen);
            s.place = place;
            s.minute = minute;
            s.kept = kept;
            return s;
        }

        int allLate() {
            return late.values().stream().mapToInt(Integer::intValue).sum();
        }
    }

    /** The document in its plainest form: every round is written out, none is cut short. */
    private static final class Plain {
        private static final Pattern HOUSE = Pattern.compile("([hmiwl])([0-9])([1-9])([1-9])");
        private static final Pattern TOWN = Pattern.compile("[hmiwl][0-9][1-9][1-9](,[hmiwl][0-9][1-9][1-9]){2,5}");
        private static final String FILLER = "h111,h111,h111,h111,h111,h111";

        List<int[]> houses = new ArrayList<>();
        String page = "";
        Scene now = new Scene();
        Scene image;
        int read;
        int hung;

        long call(String name, int a, int b, int c) {
            return switch (name) {
                case "letter" -> a < 1 || a > 126 ? -102 : page.length() == 30 ? -104 : (page += (char) a).length();
                case "blank" -> blank();
                case "fault" -> fault();
                case "town" -> town();
                case "about" -> unknown(a) ? -101 : b < 0 || b > 7 ? -102 : about(a, b);
                case "as" -> unknown(a) ? -101 : b < 0 || b > 4 ? -102 : is(a, b) ? a : -1;
                case "shut" -> unknown(a) ? -101 : shut(a, b % 4 != 0);
                case "lay" -> a < 0 || a > 9 ? -102 : houses.isEmpty() ? -103 : lay(a);
                case "pass" -> a < 1 || a > 30 ? -102 : houses.isEmpty() || now.minute + a > 999 ? -103 : (now.minute += a);
                case "open" -> unknown(a) ? -101 : !may(now).contains(a) ? -103 : open(now, a);
                case "night" -> houses.isEmpty() ? -103 : night();
                case "next" -> a < 0 || a > 2 ? -102 : houses.isEmpty() ? -103 : next(now, a);
                case "by" -> a < 0 || a > 2 || b < 0 || b > 2 ? -102 : houses.isEmpty() ? -103 : by(a, b);
                case "best" -> !List.of(0, 1, 10, 11, 12, 13, 14, 15).contains(a) ? -102 : houses.isEmpty() ? -103 : best(a);
                case "shortest" -> houses.isEmpty() ? -103 : shortest();
                case "hang" -> houses.isEmpty() || hung == 30 ? -103 : hang();
                case "twoKeys" -> houses.isEmpty() ? -103 : twoKeys();
                case "see" -> unknown(a) ? -101 : b < 0 || b > 999 ? -102 : now.seen.size() == 6 ? -104 : see(a, b, c % 2 != 0);
                case "forget" -> forget();
                case "guess" -> a < 0 || a > 1 ? -102 : houses.isEmpty() ? -103 : guess(a);
                case "nights" -> a < 1 || a > 60 || b < 0 || c < 0 || c > 2 ? -102 : houses.isEmpty() ? -103 : nights(a, b, c);
                case "image" -> houses.isEmpty() ? -103 : (image = now.copy()).minute;
                case "restore" -> image == null ? -103 : (now = image.copy()).minute;
                case "count" -> a < 0 || a > 10 ? -102 : count(a);
                default -> digest();
            };
        }

        private int blank() {
            int had = page.length();
            page = "";
            return had;
        }

        /** A beginning is a town's if some rest of a town makes it one. */
        private int fault() {
            for (int i = 0; i < page.length(); i++) {
                String head = page.substring(0, i + 1);
                boolean some = false;
                for (int end = head.length(); end <= 29; end++) {
                    some |= TOWN.matcher(head + FILLER.substring(head.length(), end)).matches();
                }
                if (!some) {
                    return i;
                }
            }
            return page.length();
        }

        private int town() {
            if (!TOWN.matcher(page).matches()) {
                return -103;
            }
            houses = new ArrayList<>();
            Matcher m = HOUSE.matcher(page);
            while (m.find()) {
                houses.add(new int[] {"hmiwl".indexOf(m.group(1)), Integer.parseInt(m.group(2)), Integer.parseInt(m.group(3)), Integer.parseInt(m.group(4))});
            }
            page = "";
            now = new Scene();
            image = null;
            read++;
            return houses.size();
        }

        private boolean unknown(int house) {
            return house < 0 || house >= houses.size();
        }

        private boolean is(int house, int kind) {
            int own = houses.get(house)[0];
            return kind == 0 || own == kind || own == 4 && kind == 3;
        }

        private int about(int house, int what) {
            return switch (what) {
                case 4 -> now.since.getOrDefault(house, -1);
                case 5 -> now.in.getOrDefault(house, -1);
                case 6 -> now.late.getOrDefault(house, 0);
                case 7 -> now.out.getOrDefault(house, 0);
                default -> houses.get(house)[what];
            };
        }

        private int shut(int house, boolean is) {
            int was = now.since.containsKey(house) ? 1 : 0;
            if (is) {
                now.since.putIfAbsent(house, now.minute);
            } else {
                now.since.remove(house);
            }
            return was;
        }

        private int lay(int place) {
            int was = now.place;
            now.place = place;
            now.kept = 0;
            return was;
        }

        private List<Integer> may(Scene s) {
            List<Integer> all = new ArrayList<>(s.since.keySet());
            Collections.sort(all);
            List<Integer> midwives = new ArrayList<>(all);
            midwives.removeIf(h -> !is(h, 1));
            return midwives.isEmpty() ? all : midwives;
        }

        private int open(Scene s, int house) {
            int[] h = houses.get(house);
            if (s.kept > s.minute) {
                s.minute = s.kept;
            }
            while (s.place != h[1]) {
                s.place += s.place < h[1] ? 1 : -1;
                s.minute++;
            }
            s.minute += is(house, 3) ? 0 : 1;
            s.kept = is(house, 4) ? s.minute + 5 : 0;
            s.since.remove(house);
            s.in.put(house, s.minute);
            for (int minute = 4 * h[2] + 1; minute <= s.minute && !is(house, 2); minute++) {
                s.late.merge(house, h[3], Integer::sum);
            }
            return s.minute;
        }

        private int night() {
            int all = 0;
            for (int house : new ArrayList<>(now.since.keySet())) {
                now.since.put(house, 0);
                if (!is(house, 2)) {
                    now.out.merge(house, houses.get(house)[3], Integer::sum);
                    all += houses.get(house)[3];
                }
            }
            now.minute = 0;
            now.kept = 0;
            return all;
        }

        private int next(Scene s, int law) {
            List<Integer> may = may(s);
            may.sort((g, h) -> Integer.compare(rank(s, law, g), rank(s, law, h)));
            return may.isEmpty() ? -1 : may.get(0);
        }

        private int rank(Scene s, int law, int house) {
            int[] h = houses.get(house);
            return law == 0 ? s.since.get(house) : law == 1 ? Math.abs(h[1] - s.place) : h[2];
        }

        private void goBy(Scene s, int law) {
            while (!s.since.isEmpty()) {
                open(s, next(s, law));
            }
        }

        private int by(int law, int what) {
            Scene s = now.copy();
            s.late.clear();
            goBy(s, law);
            return what == 0 ? s.allLate() : what == 1 ? s.minute : s.place;
        }

        /** Of every round: what is late, the last minute, then the houses. */
        private List<int[]> rounds(Scene from, boolean midwives) {
            List<int[]> found = new ArrayList<>();
            Scene s = from.copy();
            s.late.clear();
            grow(s, new int[0], midwives, found);
            return found;
        }

        private void grow(Scene s, int[] order, boolean midwives, List<int[]> found) {
            if (s.since.isEmpty()) {
                int[] round = new int[order.length + 2];
                round[0] = s.allLate();
                round[1] = s.minute;
                System.arraycopy(order, 0, round, 2, order.length);
                found.add(round);
                return;
            }
            for (int house : midwives ? may(s) : new ArrayList<>(s.since.keySet())) {
                Scene t = s.copy();
                open(t, house);
                int[] longer = Arrays.copyOf(order, order.length + 1);
                longer[order.length] = house;
                grow(t, longer, midwives, found);
            }
        }

        private static int earliest(List<int[]> rounds) {
            return rounds.stream().mapToInt(r -> r[1]).min().getAsInt();
        }

        private int[] best(Scene s) {
            return Collections.min(rounds(s, true), Arrays::compare);
        }

        private int best(int what) {
            int[] round = best(now);
            int at = what < 2 ? what : what - 8;
            return at < round.length ? round[at] : -1;
        }

        private int shortest() {
            return earliest(rounds(now, true));
        }

        private int hang() {
            hung++;
            int[] late = new int[10];
            for (int place = 0; place < 10; place++) {
                Scene s = now.copy();
                s.place = place;
                late[place] = best(s)[0];
            }
            int least = Arrays.stream(late).min().getAsInt();
            for (int place = 0; true; place++) {
                if (late[place] == least) {
                    return place;
                }
            }
        }

        private int twoKeys() {
            int least = Integer.MAX_VALUE;
            for (int some = 0; some < 64; some++) {
                Scene one = now.copy();
                Scene other = now.copy();
                for (int house : now.since.keySet()) {
                    ((some >> house & 1) == 1 ? one : other).since.remove(house);
                }
                least = Math.min(least, Math.max(earliest(rounds(one, false)), earliest(rounds(other, false))));
            }
            return least;
        }

        private int see(int house, int minute, boolean is) {
            now.seen.add(new int[] {house, minute, is ? 1 : 0});
            return now.seen.size();
        }

        private int forget() {
            int had = now.seen.size();
            now.seen.clear();
            return had;
        }

        private int guess(int what) {
            List<Integer> found = new ArrayList<>();
            for (int place = 0; place < 10; place++) {
                for (int law = 0; law < 3; law++) {
                    Scene s = new Scene();
                    s.place = place;
                    s.since.putAll(now.since);
                    goBy(s, law);
                    boolean so = true;
                    for (int[] seen : now.seen) {
                        so &= s.in.getOrDefault(seen[0], Integer.MAX_VALUE) <= seen[1] == (seen[2] == 1);
                    }
                    if (so) {
                        found.add(3 * place + law);
                    }
                }
            }
            return what == 0 ? found.size() : found.isEmpty() ? -1 : found.get(0);
        }

        private int nights(int nights, int first, int what) {
            long seed = first;
            int late = 0;
            int place = now.place;
            for (int i = 0; i < nights; i++) {
                Scene s = new Scene();
                s.place = place;
                for (int house = 0; house < houses.size(); house++) {
                    seed = (1103515245L * seed + 12345) % 2147483648L;
                    if (seed / 65536 % 2 == 1) {
                        s.since.put(house, 0);
                    }
                }
                seed = (1103515245L * seed + 12345) % 2147483648L;
                goBy(s, (int) (seed / 65536 % 3));
                late += s.allLate();
                place = s.place;
            }
            return what == 0 ? late : what == 1 ? place : (int) seed;
        }

        private int count(int what) {
            return switch (what) {
                case 0 -> houses.size();
                case 1 -> now.since.size();
                case 2 -> now.place;
                case 3 -> now.minute;
                case 4 -> now.kept;
                case 5 -> now.allLate();
                case 6 -> now.out.values().stream().mapToInt(Integer::intValue).sum();
                case 7 -> now.seen.size();
                case 8 -> page.length();
                case 9 -> read;
                default -> hung;
            };
        }

        long digest() {
            List<Integer> numbers = new ArrayList<>();
            for (int house = 0; house < houses.size(); house++) {
                for (int what = 0; what < 8; what++) {
                    numbers.add(about(house, what));
                }
            }
            if (!houses.isEmpty()) {
                for (int law = 0; law < 3; law++) {
                    numbers.addAll(List.of(next(now, law), by(law, 0), by(law, 1), by(law, 2)));
                }
                numbers.addAll(List.of(best(0), best(1), best(10), shortest(), guess(0), guess(1)));
            }
            page.chars().forEach(numbers::add);
            for (int what = 0; what <= 10; what++) {
                numbers.add(count(what));
            }
            long h = 823;
            for (int number : numbers) {
                h = 31 * h + number;
            }
            return h;
        }
    }
}
