/** Promises 20 and 21: what watching is worth, and where to watch. */
public final class WatchTest {
    private static final Check CHECK = new Check("WatchTest");

    public static void main(String[] args) {
        wrongNumbers();
        watch();
        place();
        ties();
        fewCabins();
        CHECK.end();
    }

    private static void due(String call, long got, long want) {
        CHECK.due(call, got, want);
    }

    private static void duePlace(String name, OnlyBatteries x, int m, int l, int set, int night, int watch) {
        due(name + ": set", x.place(m, l, 0), set);
        due(name + ": night", x.place(m, l, 1), night);
        due(name + ": watch", x.place(m, l, 2), watch);
        if (set > 0) {
            due(name + ": as watch tells", x.watch(set, night, night + l - 1), watch);
        }
    }

    private static OnlyBatteries wood() {
        OnlyBatteries x = Check.of("cabin 1;cabin 2;cabin 3;home 2 0 59;moon 12 12;");
        x.theft(0, 10, 14, 0, 1, 0);
        x.theft(0, 10, 11, 0, 1, 7);
        x.theft(1, 11, 13, 0, 1, 0);
        x.theft(1, 13, 20, 0, 1, 0);
        x.theft(2, 0, 59, 0, 1, 0);
        return x;
    }

    private static void wrongNumbers() {
        OnlyBatteries x = wood();
        due("set -1", x.watch(-1, 0, 1), -1);
        due("set 256", x.watch(256, 0, 1), -1);
        due("d -1", x.watch(1, -1, 1), -1);
        due("e 60", x.watch(1, 0, 60), -1);
        due("d 60", x.watch(1, 60, 60), -1);
        due("e below d", x.watch(1, 2, 1), -1);
        due("m 0", x.place(0, 1, 0), -1);
        due("m 4", x.place(4, 1, 0), -1);
        due("l 0", x.place(1, 0, 0), -1);
        due("l 61", x.place(1, 61, 0), -1);
        due("what -1", x.place(1, 1, -1), -1);
        due("what 3", x.place(1, 1, 3), -1);
        OnlyBatteries y = new OnlyBatteries();
        due("without cabins", y.place(1, 1, 0), -9);
        due("without cabins, night", y.place(3, 60, 1), -9);
        due("without cabins, watch", y.place(2, 9, 2), -9);
        due("BAD, though without cabins", y.place(1, 1, 3), -1);
        due("watch without cabins", y.watch(255, 0, 59), 0);
    }

    private static void watch() {
        OnlyBatteries x = wood();
        due("none", x.watch(0, 0, 59), 0);
        due("cabin 0", x.watch(1, 0, 59), 1000000);
        due("a third", x.watch(1, 10, 10), 333333);
        due("two thirds", x.watch(1, 10, 12), 666666);
        due("bright", x.watch(1, 12, 12), 0);
        due("the last third", x.watch(1, 13, 59), 333333);
        due("ahead", x.watch(1, 0, 9), 0);
        due("cabin 1", x.watch(2, 0, 59), 2000000);
        due("each rounded for itself", x.watch(2, 11, 13), 1000000 + 142857);
        due("both", x.watch(3, 11, 13), 666666 + 1142857);
        due("none of those could be", x.watch(4, 0, 59), 0);
        due("those not there are left out", x.watch(255, 0, 59), 3000000);
        due("only those not there", x.watch(248, 0, 59), 0);
        x.tune(4, 16);
        due("theirs are his now", x.watch(1, 10, 10), 1333333);
        x.tune(4, 0);
        due("none is his", x.watch(255, 0, 59), 0);
    }

    private static void place() {
        OnlyBatteries x = wood();
        duePlace("one man, one night", x, 1, 1, 2, 11, 1000000);
        duePlace("two men, one night", x, 2, 1, 3, 11, 1333333);
        duePlace("one man, three nights", x, 1, 3, 2, 11, 1142857);
        duePlace("one man, four nights", x, 1, 4, 2, 11, 1285714);
        duePlace("two men, four nights", x, 2, 4, 3, 10, 2142857);
        duePlace("one man, all nights", x, 1, 60, 2, 0, 2000000);
        duePlace("three men, all nights", x, 3, 60, 7, 0, 3000000);
        duePlace("three men, 59 nights", x, 3, 59, 7, 0, 3000000);
        OnlyBatteries y = Check.of("cabin 1;");
        y.theft(0, 58, 59, 0, 1, 0);
        duePlace("late", y, 1, 1, 1, 58, 1000000);
        duePlace("late, two", y, 1, 2, 1, 57, 1000000);
        duePlace("late, thirty", y, 1, 30, 1, 29, 1000000);
        y.theft(0, 0, 59, 0, 1, 0);
        duePlace("to the end", y, 1, 2, 1, 57, 1000000 + 33898);
    }

    private static void ties() {
        OnlyBatteries x = Check.of("cabin 1;cabin 2;cabin 3;cabin 4;");
        duePlace("nothing to watch", x, 2, 7, 3, 0, 0);
        x.theft(3, 20, 21, 0, 1, 0);
        x.theft(2, 30, 31, 0, 1, 0);
        duePlace("the least set, though a later night", x, 1, 1, 4, 30, 1000000);
        duePlace("then the first night", x, 1, 3, 4, 28, 1000000);
        duePlace("the rest is filled with the least", x, 2, 1, 5, 30, 1000000);
        duePlace("both", x, 2, 11, 12, 20, 2000000);
        x.theft(0, 20, 22, 0, 1, 0);
        duePlace("more", x, 2, 1, 9, 20, 1500000);
    }

    private static void fewCabins() {
        OnlyBatteries x = Check.of("cabin 1;cabin 2;");
        x.theft(1, 4, 5, 0, 1, 0);
        duePlace("three men, two cabins", x, 3, 1, 3, 4, 1000000);
        duePlace("two men", x, 2, 1, 3, 4, 1000000);
        duePlace("one man", x, 1, 1, 2, 4, 1000000);
        StringBuilder eight = new StringBuilder();
        for (int cell = 0; cell < 8; cell++) {
            eight.append("cabin ").append(cell).append(';');
        }
        OnlyBatteries y = Check.of(eight.toString());
        for (int k = 5; k < 8; k++) {
            y.theft(k, 50, 52, 0, 1, 0);
        }
        duePlace("the last three of eight", y, 3, 2, 224, 50, 3000000);
        duePlace("the first two of those", y, 2, 1, 96, 50, 1000000);
    }
}
