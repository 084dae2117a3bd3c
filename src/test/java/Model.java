import java.util.ArrayList;
import java.util.Arrays;
import java.util.List;
import java.util.TreeMap;
import java.util.regex.Matcher;
import java.util.regex.Pattern;

/** The document's words again, in other ways than the class goes: slow, and by trying. */
final class Model {
    private static final int BAD = -1, STATE = -2, FULL = -3, NONE = -9, NO = -1000000;

    private String text = "";
    private int[] ground = new int[48];
    private List<Integer> cabins = new ArrayList<>();
    private boolean[][] home = new boolean[8][60];
    private boolean[] unfit = new boolean[60];
    private final int[] tunes = {32, 4, 2, 30, 5};
    private List<int[]> thefts = new ArrayList<>();
    private List<List<Integer>> lists = new ArrayList<>();
    private final Object[][] images = new Object[2][];
    private long trace = 0;

    int type(long v, int n) {
        if (n < 1 || n > 8) {
            return BAD;
        }
        if (text.length() + n > 400) {
            return FULL;
        }
        String added = "";
        for (int i = 0; i < n; i++) {
            added = (char) (v & 255) + added;
            v >>= 8;
        }
        text += added;
        return text.length();
    }

    int clear() {
        int had = text.length();
        text = "";
        return had;
    }

    // ---- the year

    @SuppressWarnings("serial")
    private static final class Fault extends RuntimeException {
        final int place;

        Fault(int place) {
            super(null, null, false, false);
            this.place = place;
        }
    }

    private List<int[]> places;
    private List<String> tokens;
    private int next;

    private void split() {
        places = new ArrayList<>();
        tokens = new ArrayList<>();
        Matcher m = Pattern.compile("[a-z]+|[0-9]+|[^ ]", Pattern.DOTALL).matcher(text);
        while (m.find()) {
            places.add(new int[] {m.start()});
            tokens.add(m.group());
        }
        places.add(new int[] {text.length()});
        tokens.add("");
        next = 0;
    }

    private void must(boolean holds) {
        if (!holds) {
            throw new Fault(places.get(next)[0]);
        }
    }

    private int number(int least, int most) {
        String token = tokens.get(next);
        must(token.matches("0|[1-9][0-9]?"));
        int number = Integer.parseInt(token);
        must(number >= least && number <= most);
        return number;
    }

    int year() {
        split();
        int[] newGround = new int[48];
        List<Integer> newCabins = new ArrayList<>();
        boolean[][] newHome = new boolean[8][60];
        boolean[] newUnfit = new boolean[60];
        int items = 0;
        try {
            for (; !tokens.get(next).isEmpty(); items++, next++) {
                item(newGround, newCabins, newHome, newUnfit);
            }
        } catch (Fault fault) {
            return -10 - fault.place;
        }
        ground = newGround;
        cabins = newCabins;
        home = newHome;
        unfit = newUnfit;
        text = "";
        thefts = new ArrayList<>();
        lists = new ArrayList<>();
        images[0] = null;
        images[1] = null;
        return items;
    }

    private void item(int[] g, List<Integer> c, boolean[][] h, boolean[] u) {
        String word = tokens.get(next);
        must(List.of("path", "swamp", "lake", "cabin", "home", "moon", "snow").contains(word));
        must(!word.equals("cabin") || c.size() < 8);
        next++;
        if (List.of("path", "swamp", "lake", "cabin").contains(word)) {
            int cell = number(0, 47);
            if (word.equals("cabin")) {
                must(!c.contains(cell) && g[cell] != 3);
                c.add(cell);
            } else {
                must(!word.equals("lake") || !c.contains(cell));
                g[cell] = word.equals("path") ? 1 : word.equals("swamp") ? 2 : 3;
            }
        } else {
            boolean[] row = u;
            if (word.equals("home")) {
                row = h[number(0, c.size() - 1)];
                next++;
            }
            int d = number(0, 59);
            next++;
            int e = number(d, 59);
            Arrays.fill(row, d, e + 1, true);
        }
        next++;
        must(tokens.get(next).equals(";"));
    }

    int ground(int cell) {
        return isCell(cell) ? ground[cell] : BAD;
    }

    int cabin(int k) {
        return isCabin(k) ? cabins.get(k) : BAD;
    }

    int free(int k, int night) {
        return isCabin(k) && night >= 0 && night < 60 ? (isFree(k, night) ? 1 : 0) : BAD;
    }

    int tune(int what, int v) {
        int[][] range = {{1, 99}, {0, 20}, {1, 9}, {1, 60}, {0, 30}};
        if (what < 0 || what > 4 || v < range[what][0] || v > range[what][1]) {
            return BAD;
        }
        int was = tunes[what];
        tunes[what] = v;
        return was;
    }

    private boolean isCell(int cell) {
        return cell >= 0 && cell < 48;
    }

    private boolean isCabin(int k) {
        return k >= 0 && k < cabins.size();
    }

    private boolean isFree(int k, int night) {
        return !home[k][night] && !unfit[night];
    }

    // ---- thefts

    int theft(int cabin, int last, int missed, int goods, int load, int left) {
        if (!isCabin(cabin) || last < 0 || last > 59 || missed <= last || missed > 59 || goods < 0 || goods > 63
                || load < 1 || load > 30 || left < 0 || left > 7) {
            return BAD;
        }
        if (thefts.size() == 12) {
            return FULL;
        }
        thefts.add(new int[] {cabin, last, missed, goods, load, left});
        lists.add(new ArrayList<>());
        return thefts.size() - 1;
    }

    private boolean isTheft(int t) {
        return t >= 0 && t < thefts.size();
    }

    private int marks(int t) {
        int goods = thefts.get(t)[3];
        int left = thefts.get(t)[5];
        int marks = left % 2 * 4 + left / 2 % 2 * 5 + left / 4 * 6 + goods / 32 * 3 - goods / 2 % 2 * 4 - goods / 8 % 2 * 2;
        return marks < 0 ? 0 : marks;
    }

    private boolean isHis(int t) {
        return marks(t) < tunes[4];
    }

    int about(int t, int what) {
        if (!isTheft(t) || what < 0 || what > 7) {
            return BAD;
        }
        return what < 6 ? thefts.get(t)[what] : what == 6 ? marks(t) : isHis(t) ? 1 : 0;
    }

    private List<Integer> nights(int t) {
        List<Integer> nights = new ArrayList<>();
        int[] theft = thefts.get(t);
        for (int night = theft[1]; night < theft[2]; night++) {
            if (isFree(theft[0], night)) {
                nights.add(night);
            }
        }
        return nights;
    }

    int could(int t, int what) {
        if (!isTheft(t) || what < 0 || what > 2) {
            return BAD;
        }
        List<Integer> nights = nights(t);
        if (what == 0) {
            return nights.size();
        }
        return nights.isEmpty() ? NONE : nights.get(what == 1 ? 0 : nights.size() - 1);
    }

    // ---- walks, camps

    private static List<Integer> beside(int cell) {
        List<Integer> cells = new ArrayList<>();
        for (int other = 0; other < 48; other++) {
            if (Math.abs(other / 8 - cell / 8) + Math.abs(other % 8 - cell % 8) == 1) {
                cells.add(other);
            }
        }
        return cells;
    }

    int walk(int from, int to) {
        if (!isCell(from) || !isCell(to)) {
            return BAD;
        }
        if (ground[from] == 3 || ground[to] == 3) {
            return NONE;
        }
        int[] into = {2, 1, 3};
        int[] best = new int[48];
        Arrays.fill(best, 9999);
        best[from] = 0;
        for (boolean changed = true; changed; ) {
            changed = false;
            for (int cell = 0; cell < 48; cell++) {
                for (int other : beside(cell)) {
                    if (ground[cell] != 3 && best[other] + into[ground[cell]] < best[cell]) {
                        best[cell] = best[other] + into[ground[cell]];
                        changed = true;
                    }
                }
            }
        }
        return best[to] == 9999 ? NONE : best[to];
    }

    int trip(int cell, int cabin, int load) {
        if (!isCell(cell) || !isCabin(cabin) || load < 1 || load > 30) {
            return BAD;
        }
        int there = walk(cell, cabins.get(cabin));
        if (there == NONE) {
            return NONE;
        }
        int back = walk(cabins.get(cabin), cell) * (20 + load);
        return there + back / 20 + (back % 20 == 0 ? 0 : 1);
    }

    private int trips(int cell) {
        boolean water = false;
        for (int other : beside(cell)) {
            water |= ground[other] >= 2;
        }
        if (ground[cell] == 3 || !water) {
            return NONE;
        }
        for (int at : cabins) {
            int way = walk(cell, at);
            if (way != NONE && way < tunes[1]) {
                return NONE;
            }
        }
        int sum = 0;
        for (int t = 0; t < thefts.size(); t++) {
            if (isHis(t)) {
                int trip = trip(cell, thefts.get(t)[0], thefts.get(t)[4]);
                if (trip == NONE || trip > tunes[0]) {
                    return NONE;
                }
                sum += trip;
            }
        }
        return sum;
    }

    int camp(int cell) {
        return isCell(cell) ? (trips(cell) == NONE ? 0 : 1) : BAD;
    }

    int camps(int what) {
        if (what < 0 || what > 3) {
            return BAD;
        }
        List<Integer> cells = new ArrayList<>();
        int best = NONE;
        int least = NONE;
        for (int cell = 0; cell < 48; cell++) {
            int trips = trips(cell);
            if (trips != NONE) {
                cells.add(cell);
                if (best == NONE || trips < least) {
                    best = cell;
                    least = trips;
                }
            }
        }
        return what == 0 ? cells.size() : what == 1 ? best : what == 2 ? least : heaps(cells);
    }

    private static int heaps(List<Integer> cells) {
        int heaps = 0;
        List<Integer> rest = new ArrayList<>(cells);
        for (; !rest.isEmpty(); heaps++) {
            spread(rest, rest.get(0));
        }
        return heaps;
    }

    private static void spread(List<Integer> rest, int cell) {
        if (rest.remove((Integer) cell)) {
            for (int other : beside(cell)) {
                spread(rest, other);
            }
        }
    }

    // ---- takers, stores

    /** By Hall: so many men as any set of thefts has thefts to a night, rounded up. */
    private static int men(List<Long> choices) {
        int most = 0;
        int n = choices.size();
        long[] union = new long[1 << n];
        for (int set = 1; set < 1 << n; set++) {
            union[set] = union[set & set - 1] | choices.get(Integer.numberOfTrailingZeros(set));
            int nights = Long.bitCount(union[set]);
            most = Math.max(most, (Integer.bitCount(set) + nights - 1) / nights);
        }
        return most;
    }

    private List<Long> choices(List<Integer> whose) {
        List<Long> choices = new ArrayList<>();
        for (int t = 0; t < thefts.size(); t++) {
            long bits = 0;
            for (int night : nights(t)) {
                bits |= 1L << night;
            }
            if (isHis(t) && bits != 0) {
                choices.add(bits);
                whose.add(t);
            }
        }
        return choices;
    }

    int takers() {
        return men(choices(new ArrayList<>()));
    }

    int alone(int t) {
        if (!isTheft(t)) {
            return BAD;
        }
        List<Integer> whose = new ArrayList<>();
        List<Long> choices = choices(whose);
        if (men(choices) > 1) {
            return STATE;
        }
        for (int i = 0; i < choices.size(); i++) {
            for (int night : nights(whose.get(i))) {
                choices.set(i, 1L << night);
                if (men(choices) == 1) {
                    break;
                }
            }
            if (whose.get(i) == t) {
                return Long.numberOfTrailingZeros(choices.get(i));
            }
        }
        return NONE;
    }

    /** Forward: the best row up to each day for each rest of food; fewer outings are better, then later ones. */
    int stores(int cell, int d, int e, int f, int k) {
        if (!isCell(cell) || ground[cell] == 3 || starves(d, e, f) == BAD || k < -1) {
            return BAD;
        }
        TreeMap<Integer, Long> rows = new TreeMap<>();
        rows.put(f, 0L);
        for (int day = d; day <= e; day++) {
            boolean open = false;
            for (int c = 0; c < cabins.size(); c++) {
                int trip = trip(cell, c, 20);
                open |= isFree(c, day) && trip != NONE && trip <= tunes[0];
            }
            TreeMap<Integer, Long> then = new TreeMap<>();
            for (int food : rows.keySet()) {
                if (food >= tunes[2]) {
                    better(then, food - tunes[2], rows.get(food));
                    if (open) {
                        better(then, Math.min(tunes[3], food - tunes[2] + 12), rows.get(food) | 1L << day);
                    }
                }
            }
            rows = then;
        }
        if (rows.isEmpty()) {
            return NONE;
        }
        TreeMap<Integer, Long> all = new TreeMap<>();
        for (long row : rows.values()) {
            better(all, 0, row);
        }
        long row = all.get(0);
        for (int i = 0; i < k && row != 0; i++) {
            row &= row - 1;
        }
        return k == -1 ? Long.bitCount(row) : row == 0 ? BAD : Long.numberOfTrailingZeros(row);
    }

    private static void better(TreeMap<Integer, Long> rows, int food, long row) {
        Long other = rows.get(food);
        if (other != null && Long.bitCount(other) < Long.bitCount(row)) {
            return;
        }
        boolean fewer = other == null || Long.bitCount(row) < Long.bitCount(other);
        // of rows as long, the one that lacks the first night in which they differ is later
        if (fewer || (row & Long.lowestOneBit(row ^ other)) == 0) {
            rows.put(food, row);
        }
    }

    int starves(int d, int e, int f) {
        if (d < 0 || e < d || e > 59 || f < 0 || f > tunes[3]) {
            return BAD;
        }
        for (int day = d; day <= e; day++) {
            f -= tunes[2];
            if (f < 0) {
                return day;
            }
        }
        return e + 1;
    }

    // ---- watches

    int watch(int set, int d, int e) {
        if (set < 0 || set > 255 || d < 0 || e < d || e > 59) {
            return BAD;
        }
        int sum = 0;
        for (int t = 0; t < thefts.size(); t++) {
            List<Integer> nights = nights(t);
            if (isHis(t) && (set >> thefts.get(t)[0]) % 2 == 1 && !nights.isEmpty()) {
                int within = 0;
                for (int night : nights) {
                    within += night >= d && night <= e ? 1 : 0;
                }
                sum += 1000000L * within / nights.size();
            }
        }
        return sum;
    }

    int place(int m, int l, int what) {
        if (m < 1 || m > 3 || l < 1 || l > 60 || what < 0 || what > 2) {
            return BAD;
        }
        if (cabins.isEmpty()) {
            return NONE;
        }
        int[] best = {0, 0, -1};
        for (int set = (1 << cabins.size()) - 1; set > 0; set--) {
            for (int night = 60 - l; night >= 0 && Integer.bitCount(set) == Math.min(m, cabins.size()); night--) {
                int watch = watch(set, night, night + l - 1);
                if (watch >= best[2]) {
                    best = new int[] {set, night, watch};
                }
            }
        }
        return best[what];
    }

    // ---- lists, amends

    int list(int t, int coins) {
        if (!isTheft(t) || coins < 0 || coins > 9999) {
            return BAD;
        }
        if (lists.get(t).size() == 5) {
            return FULL;
        }
        lists.get(t).add(coins);
        return lists.get(t).size();
    }

    int grew(int t) {
        if (!isTheft(t)) {
            return NO;
        }
        List<Integer> own = lists.get(t);
        return own.isEmpty() ? 0 : own.get(own.size() - 1) - own.get(0);
    }

    int most() {
        int best = NONE;
        for (int t = thefts.size() - 1; t >= 0; t--) {
            if (grew(t) > 0 && (best == NONE || grew(t) >= grew(best))) {
                best = t;
            }
        }
        return best;
    }

    int loss(int k) {
        if (!isCabin(k)) {
            return BAD;
        }
        int loss = 0;
        for (int t = 0; t < thefts.size(); t++) {
            loss += isHis(t) && thefts.get(t)[0] == k && !lists.get(t).isEmpty() ? lists.get(t).get(0) : 0;
        }
        return loss;
    }

    int amends(int purse, int k) {
        if (purse < 0 || purse > 99999 || !isCabin(k)) {
            return BAD;
        }
        long all = 0;
        for (int c = 0; c < cabins.size(); c++) {
            all += loss(c);
        }
        if (purse >= all) {
            return loss(k);
        }
        long[] share = new long[cabins.size()];
        long[] lost = new long[cabins.size()];
        long over = purse;
        for (int c = 0; c < share.length; c++) {
            share[c] = (long) purse * loss(c) / all;
            lost[c] = (long) purse * loss(c) - share[c] * all;
            over -= share[c];
        }
        for (; over > 0; over--) {
            int to = 0;
            for (int c = 0; c < share.length; c++) {
                to = lost[c] > lost[to] ? c : to;
            }
            share[to]++;
            lost[to] = -1;
        }
        return (int) share[k];
    }

    // ---- kinds, images

    int weigh(int kind, int t) {
        if (!isTheft(t) || kind < 0 || kind > 5) {
            return NO;
        }
        int load = thefts.get(t)[4];
        int his = load + nights(t).size();
        int food = his + Integer.bitCount(thefts.get(t)[3]);
        trace += new int[] {1, 11, 101, 1011, 11011, 100001}[kind];
        return new int[] {load, his, load * marks(t), food, 2 * food, load - thefts.get(t)[0]}[kind];
    }

    private static List<List<Integer>> copy(List<List<Integer>> lists) {
        List<List<Integer>> copy = new ArrayList<>();
        for (List<Integer> own : lists) {
            copy.add(new ArrayList<>(own));
        }
        return copy;
    }

    int keep(int image) {
        if (image < 0 || image > 1) {
            return BAD;
        }
        images[image] = new Object[] {new ArrayList<>(thefts), copy(lists)};
        return thefts.size();
    }

    @SuppressWarnings("unchecked")
    int back(int image) {
        if (image < 0 || image > 1) {
            return BAD;
        }
        if (images[image] == null) {
            return STATE;
        }
        thefts = new ArrayList<>((List<int[]>) images[image][0]);
        lists = copy((List<List<Integer>>) images[image][1]);
        return thefts.size();
    }

    int count(int what) {
        int his = 0;
        int sum = 0;
        for (int t = 0; t < thefts.size(); t++) {
            his += isHis(t) ? 1 : 0;
            sum += lists.get(t).size();
        }
        return what < 0 || what > 4 ? BAD : new int[] {cabins.size(), thefts.size(), his, text.length(), sum}[what];
    }

    long trace() {
        return trace;
    }
}
