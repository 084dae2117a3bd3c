/** Promises 18 and 19: the fewest outings, and when he starves. */
public final class StoreTest {
    private static final Check CHECK = new Check("StoreTest");

    public static void main(String[] args) {
        wrongNumbers();
        plain();
        rows();
        nightsAndCabins();
        far();
        holds();
        wholeYear();
        starves();
        CHECK.end();
    }

    private static void due(String call, long got, long want) {
        CHECK.due(call, got, want);
    }

    /** What stores() answers to -1 and to each outing, and that the one behind is BAD. */
    private static void dueRow(String name, OnlyBatteries x, int cell, int d, int e, int f, int... nights) {
        due(name + ": fewest", x.stores(cell, d, e, f, -1), nights.length);
        for (int k = 0; k < nights.length; k++) {
            due(name + ": outing " + k, x.stores(cell, d, e, f, k), nights[k]);
        }
        due(name + ": beyond", x.stores(cell, d, e, f, nights.length), -1);
        due(name + ": far beyond", x.stores(cell, d, e, f, Integer.MAX_VALUE), -1);
        due(name + ": -2", x.stores(cell, d, e, f, -2), -1);
    }

    private static void dueNone(String name, OnlyBatteries x, int cell, int d, int e, int f) {
        due(name + ": none", x.stores(cell, d, e, f, -1), -9);
        due(name + ": none, 0", x.stores(cell, d, e, f, 0), -9);
        due(name + ": none, 59", x.stores(cell, d, e, f, 59), -9);
        due(name + ": none, any", x.stores(cell, d, e, f, Integer.MAX_VALUE), -9);
        due(name + ": none, -2", x.stores(cell, d, e, f, -2), -1);
    }

    private static void wrongNumbers() {
        OnlyBatteries x = Check.of("cabin 1;lake 5;");
        due("cell -1", x.stores(-1, 0, 0, 2, -1), -1);
        due("cell 48", x.stores(48, 0, 0, 2, -1), -1);
        due("lake", x.stores(5, 0, 0, 2, -1), -1);
        due("lake, none", x.stores(5, 0, 0, 0, -1), -1);
        due("d -1", x.stores(0, -1, 0, 2, -1), -1);
        due("d 60", x.stores(0, 60, 60, 2, -1), -1);
        due("e below d", x.stores(0, 5, 4, 2, -1), -1);
        due("e 60", x.stores(0, 5, 60, 2, -1), -1);
        due("f -1", x.stores(0, 0, 0, -1, -1), -1);
        due("f 31", x.stores(0, 0, 0, 31, -1), -1);
        due("k -2", x.stores(0, 0, 0, 2, -2), -1);
        due("k least", x.stores(0, 0, 0, 2, Integer.MIN_VALUE), -1);
        due("f 30", x.stores(0, 0, 0, 30, -1), 0);
        x.tune(3, 20);
        due("f 21", x.stores(0, 0, 0, 21, -1), -1);
        due("f 20", x.stores(0, 0, 0, 20, -1), 0);
    }

    private static void plain() {
        OnlyBatteries x = Check.of("cabin 1;");
        dueRow("enough for a day", x, 0, 7, 7, 2);
        dueNone("not enough for a day", x, 0, 7, 7, 1);
        dueNone("nothing", x, 0, 0, 5, 0);
        dueRow("five days' food, five days", x, 0, 0, 4, 10);
        dueRow("five days' food, six days", x, 0, 0, 5, 10, 4);
        dueRow("later days", x, 0, 54, 59, 10, 58);
        dueRow("a rest of one", x, 0, 0, 5, 11, 4);
        dueRow("two outings", x, 0, 0, 11, 10, 4, 10);
        dueRow("up to eleven", x, 0, 0, 10, 10, 4);
        OnlyBatteries y = Check.of("");
        dueNone("no cabin", y, 0, 0, 5, 10);
        dueRow("no cabin, but food", y, 0, 0, 4, 10);
    }

    private static void rows() {
        // he must go on night 2, though his food lasts to 4: nights 3 and 4 are bright
        OnlyBatteries x = Check.of("cabin 1;moon 3 4;");
        dueRow("bright nights ahead", x, 0, 0, 5, 10, 2);
        // from 10 on it is dark no more: what he has then must do
        OnlyBatteries y = Check.of("cabin 1;moon 10 20;");
        dueRow("fills up ahead of bright nights", y, 0, 0, 20, 10, 4, 8, 9);
        dueRow("one day less", y, 0, 0, 19, 10, 4, 8, 9);
        dueRow("four days less", y, 0, 0, 16, 10, 4, 9);
        dueNone("too many bright nights", y, 0, 0, 59, 0);
        dueRow("none needed behind the end", y, 0, 9, 19, 22);
        OnlyBatteries z = Check.of("cabin 1;moon 0 3;snow 5 30;");
        dueRow("one night alone", z, 0, 0, 9, 10, 4);
        dueRow("as far as it reaches", z, 0, 0, 10, 10, 4);
        dueNone("and no farther", z, 0, 0, 11, 10);
    }

    private static void nightsAndCabins() {
        OnlyBatteries x = Check.of("cabin 1;cabin 46;home 0 0 30;home 1 20 59;");
        // to the other it is ten cells of wood: 20 there and 40 back
        dueNone("the other is too far", x, 1, 0, 10, 10);
        x.tune(0, 60);
        dueRow("the other is just near enough", x, 1, 0, 10, 10, 4);
        x.tune(0, 59);
        dueNone("the other is a quarter too far", x, 1, 0, 10, 10);
        x.tune(0, 99);
        dueRow("none between 20 and 30", x, 1, 0, 34, 30, 14, 18, 19, 32);
    }

    private static void far() {
        OnlyBatteries x = Check.of("lake 1;lake 8;lake 9;cabin 2;");
        dueNone("no way", x, 0, 0, 5, 10);
        dueRow("a way", x, 10, 0, 5, 10, 4);
        // a trip counts with a load of 20: 2 there and 4 back
        x.tune(0, 5);
        dueNone("5 are too few", x, 10, 0, 5, 10);
        x.tune(0, 6);
        dueRow("6 are enough", x, 10, 0, 5, 10, 4);
        x.tune(0, 1);
        dueRow("at the cabin", x, 2, 0, 5, 10, 4);
    }

    private static void holds() {
        OnlyBatteries x = Check.of("cabin 1;moon 2 9;");
        x.tune(3, 12);
        dueRow("what is more is lost", x, 0, 0, 7, 10, 1);
        dueNone("so it does not last", x, 0, 0, 8, 10);
        x.tune(3, 60);
        dueRow("what is more is kept", x, 0, 0, 8, 10, 1);
        dueRow("ahead and behind", x, 0, 0, 11, 10, 1, 10);
        dueRow("twice ahead", x, 0, 0, 9, 2, 0, 1);
        x.tune(2, 9);
        x.tune(3, 8);
        dueNone("he can never hold what he eats", x, 0, 0, 0, 8);
        x.tune(3, 9);
        dueRow("just a day's food", x, 0, 0, 2, 9, 0, 1);
        dueRow("just a day", x, 0, 5, 5, 9);
    }

    private static void wholeYear() {
        OnlyBatteries x = Check.of("cabin 1;");
        x.tune(2, 9);
        x.tune(3, 60);
        int fewest = x.stores(0, 0, 59, 60, -1);
        due("a whole year's outings", fewest, 40);
        due("the last", x.stores(0, 0, 59, 60, 39), 57);
        due("the first", x.stores(0, 0, 59, 60, 0), 5);
        dueNone("a night less", x, 0, 0, 59, 8);
        x.tune(2, 1);
        dueRow("a whole year of one a day", x, 0, 0, 59, 60);
        dueRow("a whole year, eating little", x, 0, 0, 59, 30, 29, 41, 53);
    }

    private static void starves() {
        OnlyBatteries x = Check.of("cabin 1;");
        due("at once", x.starves(0, 10, 0), 0);
        due("at once, with one", x.starves(3, 10, 1), 3);
        due("behind a day", x.starves(3, 10, 2), 4);
        due("behind a day, with three", x.starves(3, 10, 3), 4);
        due("up to e", x.starves(0, 4, 8), 4);
        due("beyond e", x.starves(0, 4, 10), 5);
        due("far beyond e", x.starves(0, 4, 30), 5);
        due("beyond the year", x.starves(59, 59, 30), 60);
        x.tune(2, 9);
        due("eats 9", x.starves(10, 59, 30), 13);
        x.tune(2, 1);
        due("eats 1", x.starves(10, 59, 30), 40);
        x.tune(2, 9);
        due("d -1", x.starves(-1, 5, 3), -1);
        due("d 60", x.starves(60, 60, 3), -1);
        due("e 60", x.starves(0, 60, 3), -1);
        due("e below d", x.starves(6, 5, 3), -1);
        due("f -1", x.starves(0, 5, -1), -1);
        due("f 31", x.starves(0, 5, 31), -1);
        x.tune(3, 60);
        due("f 60", x.starves(0, 59, 60), 6);
        due("f 61", x.starves(0, 59, 61), -1);
    }
}
