import java.util.ArrayList;
import java.util.List;

/**
 * Of each refused call, and of each that asks alone: two objects go the same way, one with the call between,
 * and tell the same of all that they hold.
 */
public final class RefusalTest {
    private static final Check CHECK = new Check("RefusalTest");
    private static final int LEAST = Integer.MIN_VALUE, MOST = Integer.MAX_VALUE;
    private static final int[] TUNE_LEAST = {1, 0, 1, 1, 0};
    private static final int[] TUNE_MOST = {99, 20, 9, 60, 30};

    interface Call {
        long on(OnlyBatteries x);
    }

    interface State {
        OnlyBatteries made();
    }

    public static void main(String[] args) {
        text();
        wood();
        tunes();
        thefts();
        walks();
        takersAndStores();
        watches();
        listsAndAmends();
        kindsAndImages();
        full();
        ofNone();
        questions();
        CHECK.end();
    }

    // ---- the states

    /** A year of all kinds of items, thefts of his and theirs, lists, both images, tunes, and a text begun. */
    private static OnlyBatteries some() {
        OnlyBatteries x = Check.of("path 1;swamp 2;lake 3;lake 20;cabin 9;cabin 30;home 0 5 6;home 1 0 3;moon 8 9;snow 12 12;");
        x.tune(0, 60);
        x.tune(2, 3);
        x.tune(3, 25);
        x.theft(0, 0, 10, 3, 7, 0);
        x.list(0, 50);
        x.keep(0);
        x.theft(1, 4, 5, 1, 8, 0);
        x.theft(0, 4, 5, 32, 9, 7);
        x.theft(0, 4, 5, 2, 3, 4);
        x.list(0, 70);
        x.list(1, 20);
        x.list(2, 500);
        x.keep(1);
        x.list(1, 21);
        x.weigh(4, 1);
        Check.type(x, "lake 7");
        return x;
    }

    /** Eight cabins, twelve thefts, one of them with five lists, 400 bytes; of the images the second alone. */
    private static OnlyBatteries filled() {
        OnlyBatteries x = Check.of("swamp 3;lake 20;" + Edge.cabins(8) + "home 7 0 58;moon 30 40;");
        for (int t = 0; t < 12; t++) {
            x.theft(t % 8, t, 59, t, t + 1, t % 2 * 4);
            x.list(t, 10 * t);
        }
        x.keep(1);
        for (int i = 1; i < 5; i++) {
            x.list(11, i);
        }
        StringBuilder text = new StringBuilder();
        for (int i = 0; i < 57; i++) {
            text.append(i % 2 == 0 ? "lake " : "path ").append(i % 10).append(';');
        }
        Check.type(x, text + " ");
        return x;
    }

    // ---- all that an object holds

    private static List<String> told(OnlyBatteries x) {
        List<String> row = new ArrayList<>();
        for (int what = 0; what < 5; what++) {
            tell(row, "count " + what, x.count(what));
        }
        tell(row, "trace", x.trace());
        tell(row, "takers", x.takers());
        tell(row, "most", x.most());
        for (int what = 0; what < 4; what++) {
            tell(row, "camps " + what, x.camps(what));
        }
        for (int cell = 0; cell < 48; cell++) {
            tell(row, "ground " + cell, x.ground(cell));
        }
        for (int k = 0; k < x.count(0); k++) {
            tell(row, "cabin " + k, x.cabin(k));
            tell(row, "loss " + k, x.loss(k));
            for (int night : new int[] {0, 4, 8, 12, 59}) {
                tell(row, "free " + k + " " + night, x.free(k, night));
            }
        }
        tellThefts(row, x);
        tellImages(row, x);
        for (int what = 0; what < 5; what++) {
            tell(row, "tune " + what, x.tune(what, TUNE_LEAST[what]));
        }
        // what was typed is seen when it is read
        tell(row, "type", x.type(';', 1));
        tell(row, "year", x.year());
        for (int cell = 0; cell < 10; cell++) {
            tell(row, "ground read " + cell, x.ground(cell));
        }
        return row;
    }

    private static void tellThefts(List<String> row, OnlyBatteries x) {
        for (int t = 0; t < x.count(1); t++) {
            for (int what = 0; what < 6; what++) {
                tell(row, "about " + t + " " + what, x.about(t, what));
            }
            tell(row, "could " + t, x.could(t, 0));
            tell(row, "grew " + t, x.grew(t));
            tell(row, "alone " + t, x.alone(t));
        }
    }

    private static void tellImages(List<String> row, OnlyBatteries x) {
        for (int image = 0; image < 2; image++) {
            tell(row, "back " + image, x.back(image));
            tell(row, "lists of image " + image, x.count(4));
            tell(row, "loss of image " + image, x.loss(0));
            for (int t = 0; t < 12; t += 3) {
                tell(row, "last of image " + image + " " + t, x.about(t, 1));
                tell(row, "load of image " + image + " " + t, x.about(t, 4));
                tell(row, "growth of image " + image + " " + t, x.grew(t));
            }
        }
    }

    private static void tell(List<String> row, String what, long answer) {
        row.add(what + " " + answer);
    }

    private static void same(String name, State state, Call call) {
        OnlyBatteries x = state.made();
        call.on(x);
        List<String> got = told(x);
        List<String> want = told(state.made());
        String first = "";
        for (int i = 0; i < want.size() && first.isEmpty(); i++) {
            first = i < got.size() && got.get(i).equals(want.get(i)) ? "" : want.get(i);
        }
        CHECK.due(name + " changes nothing; '" + first + "' was", got.equals(want) ? 1 : 0, 1);
    }

    private static void refused(String name, State state, long want, Call call) {
        CHECK.due(name, call.on(state.made()), want);
        same(name, state, call);
    }

    private static void bad(String name, Call call) {
        refused(name, RefusalTest::some, -1, call);
        refused(name + ", full", RefusalTest::filled, -1, call);
    }

    private static void asks(String name, Call call) {
        same(name, RefusalTest::some, call);
        same(name + ", full", RefusalTest::filled, call);
    }

    // ---- the calls

    private static void text() {
        for (int n : new int[] {LEAST, -1, 0, 9, MOST}) {
            bad("promise 2: type(n = " + n + ")", x -> x.type(0x3B3B3B3B3B3B3B3BL, n));
        }
        refused("promise 4: year(), the text ends too early", RefusalTest::some, -16, x -> x.year());
        String[] wrongs = {"path 1;path 48", "cabin 1;lake 1", "path 5;cabin 1;moon 0 59;home 1 0 0", "swamp 9;river 1"};
        int[] faults = {12, 13, 30, 8};
        for (int i = 0; i < wrongs.length; i++) {
            String wrong = wrongs[i];
            State state = () -> {
                OnlyBatteries x = some();
                x.clear();
                Check.type(x, wrong);
                return x;
            };
            refused("promise 4: year() of '" + wrong + "'", state, -10 - faults[i], x -> x.year());
        }
    }

    private static void wood() {
        for (int v : new int[] {LEAST, -1, 48, MOST}) {
            bad("promise 5: ground(" + v + ")", x -> x.ground(v));
        }
        for (int v : new int[] {LEAST, -1, 8, MOST}) {
            bad("promise 6: cabin(" + v + ")", x -> x.cabin(v));
            bad("promise 7: free(" + v + ", 0)", x -> x.free(v, 0));
        }
        for (int v : new int[] {LEAST, -1, 60, MOST}) {
            bad("promise 7: free(0, " + v + ")", x -> x.free(0, v));
        }
    }

    private static void tunes() {
        for (int what = 0; what < 5; what++) {
            int one = what;
            for (int v : new int[] {LEAST, TUNE_LEAST[what] - 1, TUNE_MOST[what] + 1, MOST}) {
                bad("promise 8: tune(" + what + ", " + v + ")", x -> x.tune(one, v));
            }
        }
        for (int what : new int[] {LEAST, -1, 5, MOST}) {
            bad("promise 8: tune(" + what + ", 1)", x -> x.tune(what, 1));
        }
    }

    private static void thefts() {
        for (int v : new int[] {LEAST, -1, 8, MOST}) {
            bad("promise 9: theft(cabin " + v + ")", x -> x.theft(v, 0, 1, 0, 1, 0));
            bad("promise 9: theft(left " + v + ")", x -> x.theft(0, 0, 1, 0, 1, v));
        }
        for (int v : new int[] {LEAST, -1, 5, 6, 60, MOST}) {
            bad("promise 9: theft(last " + v + ")", x -> x.theft(0, v, 5, 0, 1, 0));
        }
        for (int v : new int[] {LEAST, -1, 4, 5, 60, MOST}) {
            bad("promise 9: theft(missed " + v + ")", x -> x.theft(0, 5, v, 0, 1, 0));
        }
        for (int v : new int[] {LEAST, -1, 64, MOST}) {
            bad("promise 9: theft(goods " + v + ")", x -> x.theft(0, 0, 1, v, 1, 0));
        }
        for (int v : new int[] {LEAST, 0, 31, MOST}) {
            bad("promise 9: theft(load " + v + ")", x -> x.theft(0, 0, 1, 0, v, 0));
        }
        for (int v : new int[] {LEAST, -1, 12, MOST}) {
            bad("promise 10: about(" + v + ", 0)", x -> x.about(v, 0));
            bad("promise 10: about(0, " + v + ")", x -> x.about(0, v));
            bad("promise 11: could(" + v + ", 0)", x -> x.could(v, 0));
            bad("promise 11: could(0, " + v + ")", x -> x.could(0, v));
        }
        bad("promise 10: about(0, 8)", x -> x.about(0, 8));
        bad("promise 11: could(0, 3)", x -> x.could(0, 3));
    }

    private static void walks() {
        for (int v : new int[] {LEAST, -1, 48, MOST}) {
            bad("promise 12: walk(" + v + ", 0)", x -> x.walk(v, 0));
            bad("promise 12: walk(0, " + v + ")", x -> x.walk(0, v));
            bad("promise 13: trip(" + v + ", 0, 1)", x -> x.trip(v, 0, 1));
            bad("promise 13: trip(0, " + v + ", 1)", x -> x.trip(0, v, 1));
            bad("promise 13: trip(0, 0, " + v + ")", x -> x.trip(0, 0, v));
            bad("promise 14: camp(" + v + ")", x -> x.camp(v));
            bad("promise 15: camps(" + v + ")", x -> x.camps(v));
        }
        bad("promise 13: trip(0, 0, 0)", x -> x.trip(0, 0, 0));
        bad("promise 13: trip(0, 0, 31)", x -> x.trip(0, 0, 31));
        bad("promise 15: camps(4)", x -> x.camps(4));
    }

    private static void takersAndStores() {
        for (int v : new int[] {LEAST, -1, 12, MOST}) {
            bad("promise 17: alone(" + v + ")", x -> x.alone(v));
        }
        refused("promise 17: alone(0), one is not enough", () -> {
            OnlyBatteries x = some();
            x.theft(1, 4, 5, 0, 1, 0);
            return x;
        }, -2, x -> x.alone(0));
        for (int v : new int[] {LEAST, -1, 61, MOST}) {
            bad("promise 18: stores(cell " + v + ")", x -> x.stores(v, 0, 5, 10, -1));
            bad("promise 18: stores(d " + v + ")", x -> x.stores(0, v, 5, 10, -1));
            bad("promise 18: stores(e " + v + ")", x -> x.stores(0, 0, v, 10, -1));
            bad("promise 18: stores(f " + v + ")", x -> x.stores(0, 0, 5, v, -1));
            bad("promise 19: starves(d " + v + ")", x -> x.starves(v, 5, 10));
            bad("promise 19: starves(e " + v + ")", x -> x.starves(0, v, 10));
            bad("promise 19: starves(f " + v + ")", x -> x.starves(0, 5, v));
        }
        bad("promise 18: stores(a lake)", x -> x.stores(20, 0, 5, 10, -1));
        bad("promise 18: stores(d above e)", x -> x.stores(0, 6, 5, 10, -1));
        bad("promise 18: stores(k least)", x -> x.stores(0, 0, 2, 10, LEAST));
        bad("promise 18: stores(k -2)", x -> x.stores(0, 0, 2, 10, -2));
        bad("promise 18: stores(k beyond)", x -> x.stores(0, 0, 2, 10, 0));
        bad("promise 18: stores(k most)", x -> x.stores(0, 0, 2, 10, MOST));
        bad("promise 19: starves(d above e)", x -> x.starves(6, 5, 10));
    }

    private static void watches() {
        for (int v : new int[] {LEAST, -1, 256, MOST}) {
            bad("promise 20: watch(set " + v + ")", x -> x.watch(v, 0, 5));
            bad("promise 20: watch(d " + v + ")", x -> x.watch(1, v, 5));
            bad("promise 20: watch(e " + v + ")", x -> x.watch(1, 0, v));
            bad("promise 21: place(m " + v + ")", x -> x.place(v, 1, 0));
            bad("promise 21: place(l " + v + ")", x -> x.place(1, v, 0));
            bad("promise 21: place(what " + v + ")", x -> x.place(1, 1, v));
        }
        bad("promise 20: watch(d above e)", x -> x.watch(1, 6, 5));
        bad("promise 21: place(m 0)", x -> x.place(0, 1, 0));
        bad("promise 21: place(m 4)", x -> x.place(4, 1, 0));
        bad("promise 21: place(l 0)", x -> x.place(1, 0, 0));
        bad("promise 21: place(l 61)", x -> x.place(1, 61, 0));
        bad("promise 21: place(what 3)", x -> x.place(1, 1, 3));
    }

    private static void listsAndAmends() {
        for (int v : new int[] {LEAST, -1, 12, MOST}) {
            bad("promise 22: list(t " + v + ")", x -> x.list(v, 5));
            refused("promise 23: grew(" + v + ")", RefusalTest::some, -1000000, x -> x.grew(v));
            refused("promise 23: grew(" + v + "), full", RefusalTest::filled, -1000000, x -> x.grew(v));
            bad("promise 25: loss(" + v + ")", x -> x.loss(v));
            bad("promise 26: amends(5, " + v + ")", x -> x.amends(5, v));
        }
        for (int v : new int[] {LEAST, -1, 10000, MOST}) {
            bad("promise 22: list(coins " + v + ")", x -> x.list(0, v));
        }
        for (int v : new int[] {LEAST, -1, 100000, MOST}) {
            bad("promise 26: amends(" + v + ", 0)", x -> x.amends(v, 0));
        }
    }

    private static void kindsAndImages() {
        for (int v : new int[] {LEAST, -1, 12, MOST}) {
            for (State state : new State[] {RefusalTest::some, RefusalTest::filled}) {
                refused("promise 27: weigh(" + v + ", 0)", state, -1000000, x -> x.weigh(v, 0));
                refused("promise 27: weigh(0, " + v + ")", state, -1000000, x -> x.weigh(0, v));
                refused("promise 27: weigh(4, " + v + ")", state, -1000000, x -> x.weigh(4, v));
            }
            bad("promise 28: keep(" + v + ")", x -> x.keep(v));
            bad("promise 29: back(" + v + ")", x -> x.back(v));
            bad("promise 30: count(" + v + ")", x -> x.count(v));
        }
        refused("promise 27: weigh(6, 0)", RefusalTest::some, -1000000, x -> x.weigh(6, 0));
        refused("promise 27: weigh(0, 4)", RefusalTest::some, -1000000, x -> x.weigh(0, 4));
        bad("promise 28: keep(2)", x -> x.keep(2));
        bad("promise 29: back(2)", x -> x.back(2));
        bad("promise 30: count(5)", x -> x.count(5));
        refused("promise 29: back(0), none was kept", RefusalTest::filled, -2, x -> x.back(0));
    }

    private static void full() {
        for (int n = 1; n <= 8; n++) {
            int one = n;
            refused("promise 2: " + n + " bytes beyond 400", RefusalTest::filled, -3, x -> x.type(0x3B3B3B3B3B3B3B3BL, one));
        }
        refused("promise 9: the 13th theft", RefusalTest::filled, -3, x -> x.theft(0, 0, 1, 0, 1, 0));
        refused("promise 9: the 13th theft, its greatest numbers", RefusalTest::filled, -3, x -> x.theft(7, 58, 59, 63, 30, 7));
        refused("promise 22: the 6th list", RefusalTest::filled, -3, x -> x.list(11, 9999));
        State ninth = () -> {
            OnlyBatteries x = filled();
            x.clear();
            Check.type(x, Edge.cabins(8) + "cabin 9");
            return x;
        };
        refused("promise 4: a ninth cabin", ninth, -10 - 72, x -> x.year());
    }

    private static void ofNone() {
        State none = OnlyBatteries::new;
        refused("promise 6: cabin of none", none, -1, x -> x.cabin(0));
        refused("promise 7: free of none", none, -1, x -> x.free(0, 0));
        refused("promise 9: theft of none", none, -1, x -> x.theft(0, 0, 1, 0, 1, 0));
        refused("promise 10: about of none", none, -1, x -> x.about(0, 0));
        refused("promise 11: could of none", none, -1, x -> x.could(0, 0));
        refused("promise 13: trip of none", none, -1, x -> x.trip(0, 0, 1));
        refused("promise 17: alone of none", none, -1, x -> x.alone(0));
        refused("promise 18: stores of none", none, -9, x -> x.stores(0, 0, 59, 30, -1));
        refused("promise 21: place of none", none, -9, x -> x.place(1, 1, 0));
        refused("promise 22: list of none", none, -1, x -> x.list(0, 0));
        refused("promise 23: grew of none", none, -1000000, x -> x.grew(0));
        refused("promise 24: most of none", none, -9, x -> x.most());
        refused("promise 25: loss of none", none, -1, x -> x.loss(0));
        refused("promise 26: amends of none", none, -1, x -> x.amends(0, 0));
        refused("promise 27: weigh of none", none, -1000000, x -> x.weigh(0, 0));
        refused("promise 29: back of none", none, -2, x -> x.back(0));
        refused("promise 3: clear of none", none, 0, x -> x.clear());
        refused("promise 4: year of none", none, 0, x -> x.year());
    }

    private static void questions() {
        asks("promise 5: ground", x -> x.ground(3));
        asks("promise 6: cabin", x -> x.cabin(1));
        asks("promise 7: free", x -> x.free(1, 5));
        asks("promise 10: about", x -> x.about(1, 6));
        asks("promise 11: could", x -> x.could(0, 1));
        asks("promise 12: walk", x -> x.walk(0, 47));
        asks("promise 12: walk from a lake", x -> x.walk(20, 47));
        asks("promise 13: trip", x -> x.trip(2, 1, 9));
        asks("promise 14: camp", x -> x.camp(2));
        asks("promise 15: camps", x -> x.camps(3));
        asks("promise 16: takers", x -> x.takers());
        asks("promise 17: alone", x -> x.alone(1));
        asks("promise 18: stores", x -> x.stores(1, 2, 59, 14, 1));
        asks("promise 19: starves", x -> x.starves(1, 2, 14));
        asks("promise 20: watch", x -> x.watch(255, 2, 14));
        asks("promise 21: place", x -> x.place(2, 5, 2));
        asks("promise 23: grew", x -> x.grew(0));
        asks("promise 24: most", x -> x.most());
        asks("promise 25: loss", x -> x.loss(0));
        asks("promise 26: amends", x -> x.amends(11, 0));
        asks("promise 30: count", x -> x.count(2));
        asks("promise 31: trace", x -> x.trace());
    }
}
