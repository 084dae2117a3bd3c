/** Promises 18 to 21 at their edges: stores, starving, watches, the place to watch. */
public final class EdgeStoreTest {
    private static final Check CHECK = new Check("EdgeStoreTest");
    private static final int FAR = Integer.MAX_VALUE;

    public static void main(String[] args) {
        promise18Ends();
        promise18Lake();
        promise18Food();
        promise18WhichOuting();
        promise18NoneWhateverK();
        promise18NotBelow0();
        promise18Twelve();
        promise18Holds();
        promise18Long();
        promise18FreeNights();
        promise18AsLateAsMayBe();
        promise18FirstAndLastNight();
        promise19Ends();
        promise19JustEnough();
        promise20Ends();
        promise20Nights();
        promise20Sets();
        promise20RoundedDown();
        promise20WhichThefts();
        promise21Ends();
        promise21NoCabins();
        promise21AsManyAsThereAre();
        promise21Ties();
        promise21FirstAndLastNights();
        promise21WhatWas();
        CHECK.end();
    }

    private static void due(String call, long got, long want) {
        CHECK.due(call, got, want);
    }

    // ---- stores

    private static void dueRow(String name, OnlyBatteries x, int d, int e, int f, int... nights) {
        String call = "promise 18: " + name + ", " + d + " to " + e + " with " + f;
        due(call + ": fewest", x.stores(0, d, e, f, -1), nights.length);
        for (int k = 0; k < nights.length; k++) {
            due(call + ": night " + k, x.stores(0, d, e, f, k), nights[k]);
        }
        due(call + ": k beyond", x.stores(0, d, e, f, nights.length), -1);
        due(call + ": k far beyond", x.stores(0, d, e, f, FAR), -1);
        due(call + ": k below -1", x.stores(0, d, e, f, -2), -1);
    }

    private static void dueNone(String name, OnlyBatteries x, int d, int e, int f) {
        String call = "promise 18: " + name + ", " + d + " to " + e + " with " + f;
        for (int k : new int[] {-1, 0, 1, 58, 59, 60, FAR}) {
            due(call + ": none, k " + k, x.stores(0, d, e, f, k), -9);
        }
        due(call + ": none, k below -1", x.stores(0, d, e, f, -2), -1);
    }

    private static void promise18Ends() {
        OnlyBatteries x = Check.of("cabin 1;");
        Edge.ends(CHECK, "promise 18: stores(cell)", 0, 47, -1, v -> x.stores(v, 0, 9, 10, -1));
        Edge.ends(CHECK, "promise 18: stores(d), e 59", 0, 59, -1, v -> x.stores(0, v, 59, 10, -1));
        Edge.ends(CHECK, "promise 18: stores(d), e 7", 0, 7, -1, v -> x.stores(0, v, 7, 10, -1));
        for (int d : new int[] {0, 1, 30, 58, 59}) {
            Edge.ends(CHECK, "promise 18: stores(e), d " + d, d, 59, -1, v -> x.stores(0, d, v, 10, -1));
        }
        for (int d : new int[] {-1, 60, 64, Integer.MIN_VALUE, FAR}) {
            for (int e : new int[] {-1, 0, 59, 60, 64, Integer.MIN_VALUE, FAR}) {
                due("promise 18: stores(" + d + " to " + e + ")", x.stores(0, d, e, 10, -1), -1);
            }
        }
        for (int holds : new int[] {1, 2, 12, 30, 59, 60}) {
            OnlyBatteries y = Check.of("cabin 1;");
            y.tune(3, holds);
            Edge.ends(CHECK, "promise 18: stores(f), holds " + holds, 0, holds, -1, v -> y.stores(0, 3, 3, v, -1));
            Edge.ends(CHECK, "promise 19: starves(f), holds " + holds, 0, holds, -1, v -> y.starves(3, 3, v));
        }
    }

    private static void promise18Lake() {
        OnlyBatteries x = Check.of("cabin 1;lake 0;lake 47;");
        for (int lake : new int[] {0, 47}) {
            due("promise 18: a lake", x.stores(lake, 0, 0, 30, -1), -1);
            due("promise 18: a lake, where none would be", x.stores(lake, 0, 0, 0, -1), -1);
            due("promise 18: a lake, where none would be, k 5", x.stores(lake, 0, 0, 0, 5), -1);
        }
        due("promise 18: beside a lake", x.stores(46, 0, 0, 30, -1), 0);
    }

    private static void promise18Food() {
        OnlyBatteries x = Check.of("cabin 1;");
        for (int eats = 1; eats <= 9; eats++) {
            x.tune(2, eats);
            dueNone("one less than a day's food, eats " + eats, x, 20, 20, eats - 1);
            dueRow("just a day's food, eats " + eats, x, 20, 20, eats);
        }
        x.tune(3, 8);
        dueNone("holds less than he eats", x, 20, 20, 8);
        x.tune(3, 9);
        dueRow("holds just what he eats", x, 20, 20, 9);
        dueRow("holds just what he eats, two days", x, 20, 21, 9, 20);
    }

    private static void promise18WhichOuting() {
        OnlyBatteries x = Check.of("cabin 1;");
        int[] lastDay = {4, 10, 16, 22};
        for (int n = 0; n < 4; n++) {
            int many = n;
            Edge.ends(CHECK, "promise 18: stores(k) of " + n, -1, n - 1, -1, k -> x.stores(0, 0, lastDay[many], 10, k));
        }
    }

    private static void promise18NoneWhateverK() {
        OnlyBatteries x = Check.of("moon 0 0;");
        for (int k : Edge.beyond(-1, FAR - 1)) {
            due("promise 18: none, but k " + k + " is BAD", x.stores(0, 0, 59, 0, k), k < -1 ? -1 : -9);
        }
        for (int k = -1; k < 70; k++) {
            due("promise 18: none, k " + k, x.stores(0, 0, 59, 0, k), -9);
        }
        due("promise 18: BAD is ahead of none, f", x.stores(0, 0, 59, -1, -1), -1);
        due("promise 18: BAD is ahead of none, f 31", x.stores(0, 0, 59, 31, -1), -1);
        due("promise 18: BAD is ahead of none, e", x.stores(0, 0, 60, 0, -1), -1);
        due("promise 18: BAD is ahead of none, cell", x.stores(48, 0, 59, 0, -1), -1);
    }

    /** Without cabins: what he has must do. */
    private static void promise18NotBelow0() {
        OnlyBatteries x = new OnlyBatteries();
        x.tune(3, 60);
        for (int days = 1; days <= 30; days++) {
            due("promise 18: food for " + days + " days", x.stores(0, 10, 9 + days, 2 * days, -1), 0);
            due("promise 18: one more than for " + days + " days", x.stores(0, 10, 9 + days, Math.min(60, 2 * days + 1), -1), 0);
            due("promise 18: one less than for " + days + " days", x.stores(0, 10, 9 + days, 2 * days - 1, -1), -9);
        }
    }

    private static void promise18Twelve() {
        OnlyBatteries x = Check.of("cabin 1;");
        dueRow("one day, then 12 for six more", x, 10, 16, 2, 10);
        dueRow("and a seventh", x, 10, 17, 2, 10, 16);
        dueRow("up to a thirteenth", x, 10, 22, 2, 10, 16);
        dueRow("and one more", x, 10, 23, 2, 10, 16, 22);
        dueRow("with a rest of one it is no longer", x, 10, 17, 3, 10, 16);
        x.tune(2, 3);
        dueRow("four days by 12", x, 10, 14, 3, 10);
        dueRow("and a fifth", x, 10, 15, 3, 10, 14);
        x.tune(2, 9);
        dueRow("three rests of three make a day", x, 10, 13, 9, 10, 11, 12);
        dueRow("and spare an outing", x, 10, 14, 9, 10, 11, 12);
        dueRow("and no more", x, 10, 15, 9, 10, 11, 12, 14);
    }

    private static void promise18Holds() {
        OnlyBatteries x = Check.of("cabin 1;");
        x.tune(3, 5);
        dueRow("holds 5: two days", x, 10, 11, 5);
        dueRow("holds 5: three days", x, 10, 12, 5, 11);
        dueRow("holds 5: four days", x, 10, 13, 5, 11);
        dueRow("holds 5: five days", x, 10, 14, 5, 11, 13);
        OnlyBatteries moon = Check.of("cabin 1;moon 11 30;");
        moon.tune(3, 21);
        dueRow("holds 21: the rest of 9 and 12", moon, 10, 20, 11, 10);
        dueNone("holds 21: a day more", moon, 10, 21, 11);
        moon.tune(3, 20);
        dueRow("holds 20: what is more is lost, but it is the odd one", moon, 10, 20, 11, 10);
        moon.tune(3, 19);
        dueNone("holds 19: a day less", moon, 10, 20, 11);
        dueRow("holds 19: nine days behind the night", moon, 10, 19, 11, 10);
        OnlyBatteries most = Check.of("cabin 1;moon 11 59;");
        most.tune(3, 60);
        dueRow("holds 60: 48 and 12", most, 10, 40, 50, 10);
        dueNone("holds 60: 48 and 12, a day more", most, 10, 41, 50);
        dueRow("holds 60: 58, and only 2 of 12", most, 10, 40, 60, 10);
        dueNone("holds 60: 58, and only 2 of 12, a day more", most, 10, 41, 60);
        most.tune(3, 59);
        dueNone("holds 59: a day less", most, 10, 40, 50);
        dueRow("holds 59: a day less", most, 10, 39, 50, 10);
        moon.tune(3, 1);
        moon.tune(2, 1);
        dueRow("holds 1, eats 1", moon, 8, 11, 1, 8, 9, 10);
    }

    private static void promise18Long() {
        // from 0 to 1 it is 2, and 4 back with a load of 20; from 1 to 46 it is 20, and 40 back
        OnlyBatteries x = Check.of("cabin 1;");
        x.tune(0, 6);
        dueRow("a trip of 6, long 6", x, 0, 5, 10, 4);
        x.tune(0, 5);
        dueNone("a trip of 6, long 5", x, 0, 5, 10);
        OnlyBatteries far = Check.of("cabin 46;");
        far.tune(0, 60);
        due("promise 18: a trip of 60, long 60", far.stores(1, 0, 5, 10, -1), 1);
        far.tune(0, 59);
        due("promise 18: a trip of 60, long 59", far.stores(1, 0, 5, 10, -1), -9);
        OnlyBatteries at = Check.of("cabin 0;");
        at.tune(0, 1);
        dueRow("a trip of 0, long 1", at, 0, 5, 10, 4);
        OnlyBatteries none = Check.of("cabin 47;lake 1;lake 8;");
        none.tune(0, 99);
        dueNone("no trip", none, 0, 5, 10);
        OnlyBatteries last = Check.of("cabin 41;cabin 42;cabin 43;cabin 44;cabin 45;cabin 46;cabin 47;cabin 1;");
        last.tune(0, 6);
        dueRow("of eight cabins the last is near", last, 0, 5, 10, 4);
    }

    /** One night alone is free: from 0 to 4 he may go, later he has starved. */
    private static void promise18FreeNights() {
        for (int night = 0; night <= 6; night++) {
            String moon = (night == 0 ? "" : "moon 0 " + (night - 1) + ";") + "snow " + (night + 1) + " 59;";
            OnlyBatteries x = Check.of("cabin 1;" + moon);
            OnlyBatteries home = Check.of("cabin 1;" + moon.replace("moon", "home 0").replace("snow", "home 0"));
            for (OnlyBatteries each : new OnlyBatteries[] {x, home}) {
                dueRow("free in " + night + " alone", each, 0, 4, 10);
                if (night <= 4) {
                    dueRow("free in " + night + " alone", each, 0, 5, 10, night);
                    dueRow("free in " + night + " alone", each, 0, 10, 10, night);
                    dueNone("free in " + night + " alone", each, 0, 11, 10);
                } else {
                    dueNone("free in " + night + " alone", each, 0, 5, 10);
                }
            }
        }
        OnlyBatteries two = Check.of("cabin 1;cabin 2;home 0 0 4;home 0 6 59;home 1 0 10;home 1 12 59;");
        dueRow("one cabin, then the other", two, 0, 16, 12, 5, 11);
        dueNone("one cabin, then the other, and a day more", two, 0, 18, 12);
    }

    private static void promise18AsLateAsMayBe() {
        // the second outing must be by night 9: the first waits for what it may
        OnlyBatteries x = Check.of("cabin 1;moon 10 16;");
        dueRow("the first as late as may be, then the second", x, 0, 16, 10, 4, 9);
        OnlyBatteries y = Check.of("cabin 1;moon 3 4;");
        dueRow("bright when he would go", y, 0, 5, 10, 2);
        OnlyBatteries z = Check.of("cabin 1;");
        dueRow("two could do, at any time", z, 0, 11, 12, 5);
        dueRow("two, each as late as may be", z, 0, 17, 12, 5, 11);
        z.tune(3, 13);
        dueRow("later is no more, for nothing is lost", z, 0, 17, 12, 5, 11);
    }

    private static void promise18FirstAndLastNight() {
        OnlyBatteries x = Check.of("cabin 1;");
        dueRow("the last day, food enough", x, 59, 59, 2);
        dueNone("the last day, food too little", x, 59, 59, 1);
        dueRow("the night ahead of the last day", x, 58, 59, 2, 58);
        dueRow("the first night", x, 0, 1, 2, 0);
        dueNone("the first day, nothing", x, 0, 0, 0);
        dueNone("the first day, nothing, up to the last", x, 0, 59, 0);
        x.tune(2, 1);
        x.tune(3, 60);
        dueRow("the whole year by what he has", x, 0, 59, 60);
        dueRow("the whole year, a day too little", x, 0, 59, 59, 58);
        x.tune(3, 1);
        due("promise 18: every night but the last", x.stores(0, 0, 59, 1, -1), 59);
        for (int k : new int[] {0, 1, 30, 57, 58}) {
            due("promise 18: every night, k " + k, x.stores(0, 0, 59, 1, k), k);
        }
        due("promise 18: every night, k 59", x.stores(0, 0, 59, 1, 59), -1);
        due("promise 18: every night, k 60", x.stores(0, 0, 59, 1, 60), -1);
    }

    // ---- starving

    private static void promise19Ends() {
        OnlyBatteries x = new OnlyBatteries();
        Edge.ends(CHECK, "promise 19: starves(d), e 59", 0, 59, -1, v -> x.starves(v, 59, 10));
        Edge.ends(CHECK, "promise 19: starves(d), e 7", 0, 7, -1, v -> x.starves(v, 7, 10));
        Edge.ends(CHECK, "promise 19: starves(f)", 0, 30, -1, v -> x.starves(0, 7, v));
        for (int d : new int[] {0, 1, 30, 58, 59}) {
            Edge.ends(CHECK, "promise 19: starves(e), d " + d, d, 59, -1, v -> x.starves(d, v, 10));
        }
        for (int d : new int[] {-1, 60, 64, Integer.MIN_VALUE, FAR}) {
            for (int e : new int[] {-1, 0, 59, 60, 64, Integer.MIN_VALUE, FAR}) {
                due("promise 19: starves(" + d + " to " + e + ")", x.starves(d, e, 10), -1);
            }
        }
    }

    private static void promise19JustEnough() {
        for (int eats = 1; eats <= 9; eats++) {
            OnlyBatteries x = new OnlyBatteries();
            x.tune(2, eats);
            x.tune(3, 60);
            due("promise 19: nothing, eats " + eats, x.starves(7, 59, 0), 7);
            due("promise 19: one less than a day's, eats " + eats, x.starves(7, 59, eats - 1), 7);
            due("promise 19: a day's, eats " + eats, x.starves(7, 59, eats), 8);
            due("promise 19: five days' less one, eats " + eats, x.starves(7, 11, 5 * eats - 1), 11);
            due("promise 19: five days', up to the fifth, eats " + eats, x.starves(7, 11, 5 * eats), 12);
            due("promise 19: five days', up to the sixth, eats " + eats, x.starves(7, 12, 5 * eats), 12);
            due("promise 19: six days', up to the fifth, eats " + eats, x.starves(7, 11, 6 * eats), 12);
            due("promise 19: the last day, nothing", x.starves(59, 59, 0), 59);
            due("promise 19: the last day, a day's", x.starves(59, 59, eats), 60);
            due("promise 19: the first day alone", x.starves(0, 0, 60), 1);
            due("promise 19: the whole year", x.starves(0, 59, 60), 60 / eats);
        }
        OnlyBatteries x = Check.of("cabin 1;");
        due("promise 19: he never goes", x.starves(0, 59, 30), 15);
    }

    // ---- watches

    private static OnlyBatteries one(int last, int missed) {
        OnlyBatteries x = Check.of("cabin 1;");
        x.theft(0, last, missed, 0, 1, 0);
        return x;
    }

    private static void promise20Ends() {
        for (OnlyBatteries x : new OnlyBatteries[] {new OnlyBatteries(), one(0, 9)}) {
            Edge.ends(CHECK, "promise 20: watch(set)", 0, 255, -1, v -> x.watch(v, 0, 9));
            Edge.ends(CHECK, "promise 20: watch(d), e 59", 0, 59, -1, v -> x.watch(1, v, 59));
            Edge.ends(CHECK, "promise 20: watch(d), e 7", 0, 7, -1, v -> x.watch(1, v, 7));
            for (int d : new int[] {0, 30, 58, 59}) {
                Edge.ends(CHECK, "promise 20: watch(e), d " + d, d, 59, -1, v -> x.watch(1, d, v));
            }
            for (int d : new int[] {-1, 60, 64, Integer.MIN_VALUE, FAR}) {
                for (int e : new int[] {-1, 0, 59, 60, 64, Integer.MIN_VALUE, FAR}) {
                    due("promise 20: watch(" + d + " to " + e + ")", x.watch(1, d, e), -1);
                }
            }
        }
    }

    private static void promise20Nights() {
        OnlyBatteries x = one(10, 14);
        int[][] spans = {{0, 9, 0}, {0, 10, 1}, {9, 10, 1}, {10, 10, 1}, {11, 11, 1}, {10, 13, 4}, {10, 12, 3}, {11, 13, 3},
            {9, 14, 4}, {13, 13, 1}, {13, 14, 1}, {14, 14, 0}, {14, 59, 0}, {0, 59, 4}};
        for (int[] span : spans) {
            due("promise 20: watch " + span[0] + " to " + span[1], x.watch(1, span[0], span[1]), 250000 * span[2]);
        }
        OnlyBatteries y = one(0, 59);
        due("promise 20: the first night", y.watch(1, 0, 0), 1000000 / 59);
        due("promise 20: the last in which it could be", y.watch(1, 58, 58), 1000000 / 59);
        due("promise 20: the last night", y.watch(1, 59, 59), 0);
        due("promise 20: all nights", y.watch(1, 0, 59), 1000000);
        due("promise 20: all but one", y.watch(1, 0, 57), 983050);
    }

    private static void promise20Sets() {
        OnlyBatteries x = Check.of(Edge.cabins(8));
        for (int k = 0; k < 8; k++) {
            x.theft(k, 10, 11 + k, 0, 1, 0);
        }
        due("promise 20: an empty set", x.watch(0, 0, 59), 0);
        for (int k = 0; k < 8; k++) {
            due("promise 20: cabin " + k + " alone", x.watch(1 << k, 10, 10), 1000000 / (k + 1));
            due("promise 20: all but cabin " + k, x.watch(255 - (1 << k), 0, 59), 7000000);
        }
        due("promise 20: all", x.watch(255, 0, 59), 8000000);
        OnlyBatteries two = Check.of(Edge.cabins(2));
        two.theft(0, 0, 1, 0, 1, 0);
        two.theft(1, 0, 1, 0, 1, 0);
        due("promise 20: those that are not there are left out", two.watch(255, 0, 59), 2000000);
        due("promise 20: the first that is not there", two.watch(4, 0, 59), 0);
        due("promise 20: all that are not there", two.watch(252, 0, 59), 0);
        due("promise 20: without cabins", new OnlyBatteries().watch(255, 0, 59), 0);
    }

    private static void promise20RoundedDown() {
        for (int nights = 1; nights <= 59; nights++) {
            OnlyBatteries x = one(0, nights);
            for (int in : new int[] {1, nights / 2, nights - 1, nights}) {
                if (in > 0) {
                    due("promise 20: " + in + " of " + nights, x.watch(1, 0, in - 1), 1000000 * in / nights);
                }
            }
        }
        OnlyBatteries x = Check.of("cabin 1;");
        for (int t = 1; t <= 12; t++) {
            x.theft(0, 0, 3, 0, 1, 0);
            due("promise 20: each of " + t + " rounded down", x.watch(1, 0, 0), 333333 * t);
            due("promise 20: each of " + t + " rounded down, two nights", x.watch(1, 0, 1), 666666 * t);
            due("promise 20: all nights of " + t, x.watch(1, 0, 59), 1000000 * t);
        }
    }

    private static void promise20WhichThefts() {
        OnlyBatteries x = Check.of("cabin 1;moon 5 6;");
        x.theft(0, 5, 7, 0, 1, 0);
        due("promise 20: one that could be in none", x.watch(1, 0, 59), 0);
        x.theft(0, 4, 7, 0, 1, 2);
        due("promise 20: marks just the bar", x.watch(1, 0, 59), 0);
        x.theft(0, 4, 7, 0, 1, 1);
        due("promise 20: marks below the bar", x.watch(1, 0, 59), 1000000);
        due("promise 20: the bright ones do not count", x.watch(1, 5, 6), 0);
    }

    // ---- places

    private static void duePlace(String name, OnlyBatteries x, int m, int l, int set, int night, int watch) {
        String call = "promise 21: " + name + ", " + m + " men, " + l + " nights";
        due(call + ": set", x.place(m, l, 0), set);
        due(call + ": night", x.place(m, l, 1), night);
        due(call + ": watch", x.place(m, l, 2), watch);
    }

    private static void promise21Ends() {
        for (OnlyBatteries x : new OnlyBatteries[] {new OnlyBatteries(), one(0, 9)}) {
            Edge.ends(CHECK, "promise 21: place(m)", 1, 3, -1, v -> x.place(v, 1, 0));
            Edge.ends(CHECK, "promise 21: place(l)", 1, 60, -1, v -> x.place(1, v, 0));
            Edge.ends(CHECK, "promise 21: place(what)", 0, 2, -1, v -> x.place(1, 1, v));
        }
    }

    private static void promise21NoCabins() {
        OnlyBatteries x = new OnlyBatteries();
        for (int m = 1; m <= 3; m++) {
            for (int what = 0; what < 3; what++) {
                due("promise 21: without cabins", x.place(m, 1, what), -9);
                due("promise 21: without cabins, 60 nights", x.place(m, 60, what), -9);
            }
        }
        due("promise 21: BAD is ahead of none, m", x.place(4, 1, 0), -1);
        due("promise 21: BAD is ahead of none, l", x.place(1, 61, 0), -1);
        due("promise 21: BAD is ahead of none, what", x.place(1, 1, 3), -1);
    }

    private static void promise21AsManyAsThereAre() {
        for (int cabins = 1; cabins <= 8; cabins++) {
            OnlyBatteries x = Check.of(Edge.cabins(cabins));
            for (int m = 1; m <= 3; m++) {
                int size = Math.min(m, cabins);
                duePlace("nothing to watch at " + cabins, x, m, 1, (1 << size) - 1, 0, 0);
                duePlace("nothing to watch at " + cabins, x, m, 60, (1 << size) - 1, 0, 0);
            }
            for (int k = 0; k < cabins; k++) {
                x.theft(k, 20, 21, 0, 1, 0);
            }
            for (int m = 1; m <= 3; m++) {
                int size = Math.min(m, cabins);
                duePlace("each as good, " + cabins, x, m, 1, (1 << size) - 1, 20, 1000000 * size);
            }
            x.theft(cabins - 1, 20, 21, 0, 1, 0);
            for (int m = 1; m <= 3; m++) {
                int size = Math.min(m, cabins);
                int set = 1 << cabins - 1 | (1 << size - 1) - 1;
                duePlace("the last better, " + cabins, x, m, 1, set, 20, 1000000 * (size + 1));
            }
        }
        OnlyBatteries last = Check.of(Edge.cabins(8));
        for (int k = 5; k < 8; k++) {
            last.theft(k, 58, 59, 0, 1, 0);
        }
        duePlace("the greatest set", last, 3, 1, 224, 58, 3000000);
        duePlace("the greatest set, two nights", last, 3, 2, 224, 57, 3000000);
    }

    private static void promise21Ties() {
        OnlyBatteries x = Check.of(Edge.cabins(3));
        x.theft(2, 5, 6, 0, 1, 0);
        x.theft(1, 40, 41, 0, 1, 0);
        duePlace("the least set, though the night is later", x, 1, 1, 2, 40, 1000000);
        duePlace("the least set that has it", x, 2, 1, 3, 40, 1000000);
        duePlace("one by one, the first night", x, 3, 1, 7, 5, 1000000);
        duePlace("both, 35 nights between", x, 3, 36, 7, 5, 2000000);
        duePlace("a night too few", x, 3, 35, 7, 0, 1000000);
        OnlyBatteries y = one(10, 20);
        duePlace("the first of all nights as good", y, 1, 3, 1, 10, 300000);
        duePlace("as many as it could be in", y, 1, 10, 1, 10, 1000000);
        duePlace("one more: the first from which all are in", y, 1, 11, 1, 9, 1000000);
        duePlace("twenty: from 0 on", y, 1, 20, 1, 0, 1000000);
        duePlace("nineteen: from 1 on", y, 1, 19, 1, 1, 1000000);
    }

    private static void promise21FirstAndLastNights() {
        OnlyBatteries first = one(0, 1);
        OnlyBatteries last = one(58, 59);
        for (int l = 1; l <= 60; l++) {
            duePlace("the first night", first, 1, l, 1, 0, 1000000);
        }
        for (int l = 1; l <= 59; l++) {
            duePlace("the last in which one could be", last, 1, l, 1, 59 - l, 1000000);
        }
        duePlace("all nights", last, 1, 60, 1, 0, 1000000);
        OnlyBatteries both = Check.of("cabin 1;");
        both.theft(0, 0, 1, 0, 1, 0);
        both.theft(0, 58, 59, 0, 1, 0);
        duePlace("both ends, all nights", both, 1, 60, 1, 0, 2000000);
        duePlace("both ends, all but the last", both, 1, 59, 1, 0, 2000000);
        duePlace("both ends, a night too few", both, 1, 58, 1, 0, 1000000);
    }

    /** What was found with other thefts, another bar, another year does not count. */
    private static void promise21WhatWas() {
        OnlyBatteries x = Check.of(Edge.cabins(2));
        x.keep(0);
        x.theft(1, 58, 59, 0, 1, 0);
        duePlace("the last in which one could be", x, 1, 1, 2, 58, 1000000);
        x.tune(4, 0);
        duePlace("not his any more", x, 1, 60, 1, 0, 0);
        duePlace("not his any more", x, 2, 2, 3, 0, 0);
        x.tune(4, 5);
        duePlace("his again", x, 1, 1, 2, 58, 1000000);
        x.back(0);
        duePlace("no theft any more", x, 1, 30, 1, 0, 0);
        duePlace("no theft any more", x, 1, 1, 1, 0, 0);
        x.theft(1, 58, 59, 0, 1, 0);
        duePlace("one again", x, 1, 1, 2, 58, 1000000);
        Check.type(x, "cabin 1;");
        x.year();
        duePlace("a new year", x, 3, 59, 1, 0, 0);
        due("promise 20: watch in a new year", x.watch(255, 0, 59), 0);
    }
}
