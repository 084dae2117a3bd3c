/** Promises 1, 5 to 8 and 12 to 15 at their edges: a new object, cells, cabins, nights, tunes, walks, trips, camps. */
public final class EdgeWoodTest {
    private static final Check CHECK = new Check("EdgeWoodTest");
    private static final int[] TUNE_FIRST = {32, 4, 2, 30, 5};
    private static final int[] TUNE_LEAST = {1, 0, 1, 1, 0};
    private static final int[] TUNE_MOST = {99, 20, 9, 60, 30};

    public static void main(String[] args) {
        promise1NewObject();
        promise5Ends();
        promise5EachCell();
        promise5ToldAgain();
        promise6Ends();
        promise7Ends();
        promise7Days();
        promise7Added();
        promise7EachCabin();
        promise8Ends();
        promise8Stays();
        promise12Ends();
        promise12ToItself();
        promise12Lakes();
        promise12RowsEnds();
        promise12FarthestWays();
        promise12BothWaysAtOnce();
        promise12NewYear();
        promise13Ends();
        promise13RoundedUp();
        promise13NoWay();
        promise14Ends();
        promise14Beside();
        promise14EachSide();
        promise14Apart();
        promise14Long();
        promise14WhichThefts();
        promise15Ends();
        promise15None();
        promise15All();
        promise15Best();
        promise15Heaps();
        CHECK.end();
    }

    private static void due(String call, long got, long want) {
        CHECK.due(call, got, want);
    }

    // ---- a new object

    private static void promise1NewObject() {
        OnlyBatteries x = new OnlyBatteries();
        for (int cell = 0; cell < 48; cell++) {
            due("promise 1: all is wood, " + cell, x.ground(cell), 0);
        }
        for (int what = 0; what < 5; what++) {
            due("promise 1: count(" + what + ")", x.count(what), 0);
            due("promise 1: tune " + what + " at first", x.tune(what, TUNE_FIRST[what]), TUNE_FIRST[what]);
        }
        due("promise 1: no cabin", x.cabin(0), -1);
        due("promise 1: no theft", x.about(0, 0), -1);
        due("promise 1: none kept, 0", x.back(0), -2);
        due("promise 1: none kept, 1", x.back(1), -2);
        due("promise 1: trace", x.trace(), 0);
        due("promise 1: takers", x.takers(), 0);
        due("promise 1: most", x.most(), -9);
        due("promise 1: watch", x.watch(255, 0, 59), 0);
        due("promise 1: place", x.place(1, 1, 0), -9);
        due("promise 1: stores with food enough", x.stores(0, 0, 14, 30, -1), 0);
        due("promise 1: stores without cabins", x.stores(0, 0, 15, 30, -1), -9);
        due("promise 1: clear", x.clear(), 0);
        due("promise 1: year", x.year(), 0);
        // objects do not share what they hold
        OnlyBatteries other = Check.of("lake 3;cabin 5;");
        other.tune(0, 9);
        other.weigh(0, other.theft(0, 0, 1, 0, 1, 0));
        other.keep(0);
        due("promise 1: another's lake", x.ground(3), 0);
        due("promise 1: another's cabin", x.count(0), 0);
        due("promise 1: another's tune", x.tune(0, 32), 32);
        due("promise 1: another's trace", x.trace(), 0);
        due("promise 1: another's image", x.back(0), -2);
    }

    // ---- cells, cabins, nights

    private static void promise5Ends() {
        OnlyBatteries x = Check.of("lake 0;swamp 47;");
        Edge.ends(CHECK, "promise 5: ground", 0, 47, -1, x::ground);
        due("promise 5: ground(0)", x.ground(0), 3);
        due("promise 5: ground(47)", x.ground(47), 2);
        OnlyBatteries lakes = Check.of(Edge.everywhere("lake"));
        Edge.ends(CHECK, "promise 5: ground, all lakes", 0, 47, -1, lakes::ground);
    }

    private static void promise5EachCell() {
        for (int told = 0; told < 48; told++) {
            String[] words = {"path ", "swamp ", "lake "};
            OnlyBatteries x = Check.of(words[told % 3] + told + ";");
            for (int cell = 0; cell < 48; cell++) {
                due("promise 5: ground(" + cell + ") of " + told, x.ground(cell), cell == told ? 1 + told % 3 : 0);
            }
        }
    }

    private static void promise5ToldAgain() {
        String[] words = {"path", "swamp", "lake"};
        for (int first = 0; first < 3; first++) {
            for (int then = 0; then < 3; then++) {
                String text = words[first] + " 9;" + words[then] + " 9;";
                due("promise 5: ground(9) of '" + text + "'", Check.of(text).ground(9), then + 1);
                due("promise 5: ground(10) of '" + text + "'", Check.of(text).ground(10), 0);
            }
        }
        due("promise 5: a cabin leaves the ground", Check.of("swamp 9;cabin 9;").ground(9), 2);
    }

    private static void promise6Ends() {
        due("promise 6: cabin(0) of none", new OnlyBatteries().cabin(0), -1);
        for (int cabins = 1; cabins <= 8; cabins++) {
            OnlyBatteries x = Check.of(Edge.cabins(cabins));
            Edge.ends(CHECK, "promise 6: cabin of " + cabins, 0, cabins - 1, -1, x::cabin);
            for (int k = 0; k < cabins; k++) {
                due("promise 6: cabin(" + k + ") of " + cabins, x.cabin(k), 40 + k);
            }
            due("promise 6: count", x.count(0), cabins);
        }
        due("promise 6: the first cell", Check.of("cabin 47;cabin 0;").cabin(1), 0);
        due("promise 6: the last cell", Check.of("cabin 47;cabin 0;").cabin(0), 47);
    }

    private static void promise7Ends() {
        due("promise 7: free(0, 0) without cabins", new OnlyBatteries().free(0, 0), -1);
        for (int cabins : new int[] {1, 2, 8}) {
            OnlyBatteries x = Check.of(Edge.cabins(cabins) + "moon 0 0;moon 59 59;");
            Edge.ends(CHECK, "promise 7: free(k, 5) of " + cabins, 0, cabins - 1, -1, k -> x.free(k, 5));
            Edge.ends(CHECK, "promise 7: free(0, night)", 0, 59, -1, night -> x.free(0, night));
            Edge.ends(CHECK, "promise 7: free(last, night)", 0, 59, -1, night -> x.free(cabins - 1, night));
            due("promise 7: night 0", x.free(0, 0), 0);
            due("promise 7: night 1", x.free(0, 1), 1);
            due("promise 7: night 58", x.free(0, 58), 1);
            due("promise 7: night 59", x.free(0, 59), 0);
        }
    }

    private static void promise7Days() {
        int[][] spans = {{0, 0}, {0, 1}, {0, 59}, {1, 58}, {29, 32}, {31, 31}, {32, 32}, {58, 59}, {59, 59}};
        for (String word : new String[] {"home 0 ", "moon ", "snow "}) {
            for (int[] span : spans) {
                OnlyBatteries x = Check.of("cabin 9;" + word + span[0] + " " + span[1] + ";");
                for (int night = 0; night < 60; night++) {
                    due("promise 7: free(0, " + night + ") with " + word + span[0] + " " + span[1], x.free(0, night),
                            night < span[0] || night > span[1] ? 1 : 0);
                }
            }
        }
    }

    private static void promise7Added() {
        for (String word : new String[] {"home 0 ", "moon ", "snow "}) {
            OnlyBatteries x = Check.of("cabin 9;" + word + "10 12;" + word + "12 14;" + word + "16 16;" + word + "11 11;");
            for (int night = 0; night < 60; night++) {
                boolean told = night >= 10 && night <= 14 || night == 16;
                due("promise 7: " + word + "added, night " + night, x.free(0, night), told ? 0 : 1);
            }
        }
        OnlyBatteries all = Check.of("cabin 9;home 0 5 5;moon 6 6;snow 7 7;moon 5 5;");
        for (int night = 4; night <= 8; night++) {
            due("promise 7: one of each, night " + night, all.free(0, night), night == 4 || night == 8 ? 1 : 0);
        }
    }

    private static void promise7EachCabin() {
        for (int k = 0; k < 8; k++) {
            OnlyBatteries x = Check.of(Edge.cabins(8) + "home " + k + " 59 59;moon 30 30;");
            for (int other = 0; other < 8; other++) {
                due("promise 7: home of " + k + ", cabin " + other, x.free(other, 59), other == k ? 0 : 1);
                due("promise 7: bright for all, cabin " + other, x.free(other, 30), 0);
            }
        }
    }

    // ---- tunes

    private static void promise8Ends() {
        for (int what = 0; what < 5; what++) {
            int one = what;
            Edge.ends(CHECK, "promise 8: tune(" + what + ", v)", TUNE_LEAST[what], TUNE_MOST[what], -1,
                    v -> new OnlyBatteries().tune(one, v));
            OnlyBatteries x = new OnlyBatteries();
            due("promise 8: the first of " + what, x.tune(what, TUNE_LEAST[what]), TUNE_FIRST[what]);
            due("promise 8: the least of " + what, x.tune(what, TUNE_MOST[what]), TUNE_LEAST[what]);
            for (int v : Edge.beyond(TUNE_LEAST[what], TUNE_MOST[what])) {
                due("promise 8: refused, tune(" + what + ", " + v + ")", x.tune(what, v), -1);
            }
            due("promise 8: the greatest of " + what + " stays", x.tune(what, TUNE_FIRST[what]), TUNE_MOST[what]);
            for (int other = 0; other < 5; other++) {
                due("promise 8: tune " + other + " is its own", x.tune(other, TUNE_FIRST[other]), TUNE_FIRST[other]);
            }
        }
        Edge.ends(CHECK, "promise 8: tune(what, 1)", 0, 4, -1, what -> new OnlyBatteries().tune(what, 1));
    }

    private static void promise8Stays() {
        OnlyBatteries x = new OnlyBatteries();
        for (int what = 0; what < 5; what++) {
            x.tune(what, TUNE_MOST[what]);
        }
        x.keep(0);
        Check.type(x, "cabin 9;");
        x.year();
        x.keep(0);
        x.back(0);
        for (int what = 0; what < 5; what++) {
            due("promise 8: tune " + what + " stays behind year and back", x.tune(what, 1), TUNE_MOST[what]);
        }
    }

    // ---- walks

    private static void promise12Ends() {
        OnlyBatteries x = Check.of("lake 20;");
        for (int far : new int[] {0, 20, 47}) {
            Edge.ends(CHECK, "promise 12: walk(from, " + far + ")", 0, 47, -1, from -> x.walk(from, far));
            Edge.ends(CHECK, "promise 12: walk(" + far + ", to)", 0, 47, -1, to -> x.walk(far, to));
        }
        due("promise 12: both are none", x.walk(-1, 48), -1);
    }

    private static void promise12ToItself() {
        OnlyBatteries x = Check.of("path 0;swamp 1;lake 2;path 47;swamp 46;");
        for (int cell = 0; cell < 48; cell++) {
            due("promise 12: walk(" + cell + ", " + cell + ")", x.walk(cell, cell), cell == 2 ? -9 : 0);
        }
        due("promise 12: to itself, shut in", Check.of("lake 1;lake 8;").walk(0, 0), 0);
    }

    private static void promise12Lakes() {
        OnlyBatteries x = Check.of("lake 0;lake 1;lake 47;");
        due("promise 12: from a lake", x.walk(0, 5), -9);
        due("promise 12: to a lake", x.walk(5, 0), -9);
        due("promise 12: from a lake to a lake", x.walk(0, 1), -9);
        due("promise 12: a lake to itself", x.walk(47, 47), -9);
        OnlyBatteries all = Check.of(Edge.everywhere("lake"));
        for (int cell = 0; cell < 48; cell++) {
            due("promise 12: all lakes, " + cell, all.walk(cell, cell), -9);
            due("promise 12: all lakes, from " + cell, all.walk(cell, 47 - cell), -9);
        }
        // a row of lakes from edge to edge
        OnlyBatteries wall = Check.of("lake 16;lake 17;lake 18;lake 19;lake 20;lake 21;lake 22;lake 23;");
        due("promise 12: over a wall", wall.walk(8, 24), -9);
        due("promise 12: over a wall, back", wall.walk(24, 15), -9);
        due("promise 12: along a wall", wall.walk(8, 15), 14);
        due("promise 12: along a wall, below", wall.walk(31, 24), 14);
    }

    private static void promise12RowsEnds() {
        OnlyBatteries x = new OnlyBatteries();
        for (int row = 0; row < 5; row++) {
            due("promise 12: from row " + row + "'s last to the next one's first", x.walk(8 * row + 7, 8 * row + 8), 16);
            due("promise 12: and back", x.walk(8 * row + 8, 8 * row + 7), 16);
            due("promise 12: down the first column", x.walk(8 * row, 8 * row + 8), 2);
            due("promise 12: up the last column", x.walk(8 * row + 15, 8 * row + 7), 2);
        }
        for (int row = 0; row < 6; row++) {
            due("promise 12: along row " + row, x.walk(8 * row, 8 * row + 7), 14);
            due("promise 12: along row " + row + ", back", x.walk(8 * row + 7, 8 * row), 14);
        }
        due("promise 12: from the first row to the last", x.walk(3, 43), 10);
        due("promise 12: no way round the top and bottom", x.walk(0, 40), 10);
    }

    private static void promise12FarthestWays() {
        due("promise 12: corner to corner in wood", new OnlyBatteries().walk(0, 47), 24);
        due("promise 12: corner to corner by paths", Check.of(Edge.everywhere("path")).walk(0, 47), 12);
        due("promise 12: corner to corner in swamps", Check.of(Edge.everywhere("swamp")).walk(0, 47), 36);
        due("promise 12: the other corners", Check.of(Edge.everywhere("swamp")).walk(7, 40), 36);
        OnlyBatteries x = Check.of(snake());
        due("promise 12: a snake of swamps", x.walk(0, 39), 75);
        due("promise 12: a snake of swamps, back", x.walk(39, 0), 75);
        due("promise 12: half of it", x.walk(0, 15), 24);
        due("promise 12: a trip along it", x.trip(0, 0, 30), 75 + 188);
    }

    /** Swamps to and fro from cell 0 to 39, all else lakes; a cabin at the end. */
    private static String snake() {
        StringBuilder text = new StringBuilder();
        for (int cell = 0; cell < 48; cell++) {
            int row = cell / 8;
            boolean swamp = row == 0 || row == 2 || row == 4 || cell == 15 || cell == 24;
            text.append(swamp ? "swamp" : "lake").append(cell).append(';');
        }
        return text + "cabin39;";
    }

    /** Two ways round a lake that are as long, and meet in the cell from two sides. */
    private static void promise12BothWaysAtOnce() {
        due("promise 12: from left and right at once", Check.of("lake 9;lake 25;").walk(1, 17), 8);
        due("promise 12: from above and below at once", Check.of("lake 9;lake 11;").walk(8, 10), 8);
        due("promise 12: from above alone", Check.of("lake 9;lake 11;lake 17;lake 18;").walk(0, 10), 6);
        due("promise 12: by paths, left and right", Check.of("lake 9;lake 25;path 17;").walk(1, 17), 7);
        due("promise 12: through swamps, above and below", Check.of("lake 9;lake 11;swamp 10;").walk(8, 10), 9);
    }

    /** What was walked in an old year does not count in a new one. */
    private static void promise12NewYear() {
        OnlyBatteries x = Check.of("lake 1;swamp 8;cabin 9;");
        due("promise 12: through the swamp", x.walk(0, 16), 5);
        due("promise 12: into a lake", x.walk(0, 1), -9);
        Check.type(x, "path 1;path 8;cabin 16;cabin 99;");
        due("promise 4: a fault", x.year(), -10 - 29);
        due("promise 12: as it was behind a fault", x.walk(0, 16), 5);
        due("promise 12: a lake still behind a fault", x.walk(0, 1), -9);
        x.clear();
        Check.type(x, "path 1;path 8;lake 2;cabin 16;");
        due("promise 4: a new year", x.year(), 4);
        due("promise 12: by the path now", x.walk(0, 16), 3);
        due("promise 12: no lake now", x.walk(0, 1), 1);
        due("promise 12: a lake now", x.walk(0, 2), -9);
        due("promise 13: a trip in the new year", x.trip(0, 0, 20), 3 + 6);
        due("promise 14: a camp in the new year", x.camp(1), 1);
        due("promise 14: no camp any more", x.camp(0), 0);
        x.year();
        due("promise 12: all is wood again", x.walk(0, 16), 4);
        due("promise 12: all is wood again, where the lake was", x.walk(0, 2), 4);
    }

    // ---- trips

    private static void promise13Ends() {
        due("promise 13: without cabins", new OnlyBatteries().trip(0, 0, 1), -1);
        for (int cabins : new int[] {1, 2, 8}) {
            OnlyBatteries x = Check.of(Edge.cabins(cabins) + "lake 5;");
            Edge.ends(CHECK, "promise 13: trip(cell, 0, 1)", 0, 47, -1, cell -> x.trip(cell, 0, 1));
            Edge.ends(CHECK, "promise 13: trip(0, cabin, 1) of " + cabins, 0, cabins - 1, -1, k -> x.trip(0, k, 1));
            Edge.ends(CHECK, "promise 13: trip(0, 0, load)", 1, 30, -1, load -> x.trip(0, 0, load));
            due("promise 13: BAD, though from a lake", x.trip(5, 0, 0), -1);
            due("promise 13: BAD, though from a lake, load 31", x.trip(5, 0, 31), -1);
            due("promise 13: BAD, though from a lake, no cabin", x.trip(5, cabins, 1), -1);
        }
    }

    /** The way back is so many quarters; there it is always 1. */
    private static void dueTrip(int back, int load, int want) {
        String[] grounds = {"", "path 0;", "", "swamp 0;"};
        OnlyBatteries x = Check.of(grounds[back] + "path 1;cabin 1;");
        due("promise 13: a way back of " + back + " with " + load, x.trip(0, 0, load), 1 + want);
    }

    private static void promise13RoundedUp() {
        int[][] rows = {{1, 1, 2}, {1, 19, 2}, {1, 20, 2}, {1, 21, 3}, {1, 30, 3}, {2, 1, 3}, {2, 9, 3}, {2, 10, 3},
            {2, 11, 4}, {2, 19, 4}, {2, 20, 4}, {2, 21, 5}, {2, 29, 5}, {2, 30, 5}, {3, 1, 4}, {3, 6, 4}, {3, 7, 5},
            {3, 13, 5}, {3, 14, 6}, {3, 20, 6}, {3, 21, 7}, {3, 26, 7}, {3, 27, 8}, {3, 30, 8}};
        for (int[] row : rows) {
            dueTrip(row[0], row[1], row[2]);
        }
        OnlyBatteries x = Check.of("cabin 1;");
        for (int load = 1; load <= 30; load++) {
            due("promise 13: at the cabin with " + load, x.trip(1, 0, load), 0);
        }
    }

    private static void promise13NoWay() {
        OnlyBatteries x = Check.of("lake 1;lake 8;cabin 0;cabin 9;");
        due("promise 13: shut in", x.trip(47, 0, 1), -9);
        due("promise 13: shut out", x.trip(0, 1, 1), -9);
        due("promise 13: from a lake", x.trip(8, 1, 1), -9);
        due("promise 13: a way", x.trip(47, 1, 1), 20 + 21);
        due("promise 13: shut in, at the cabin", x.trip(0, 0, 30), 0);
    }

    // ---- camps

    private static String campsOf(OnlyBatteries x) {
        StringBuilder row = new StringBuilder();
        for (int cell = 0; cell < 48; cell++) {
            row.append(x.camp(cell) == 1 ? (row.length() == 0 ? "" : " ") + cell : "");
        }
        return row.toString();
    }

    private static void dueCamps(String name, OnlyBatteries x, String want) {
        String got = campsOf(x);
        due(name + ": camps are '" + got + "', due '" + want + "'", got.equals(want) ? 1 : 0, 1);
        due(name + ": how many", x.camps(0), want.isEmpty() ? 0 : want.split(" ").length);
    }

    private static void promise14Ends() {
        for (OnlyBatteries x : new OnlyBatteries[] {new OnlyBatteries(), Check.of("lake 10;"), Check.of(Edge.everywhere("lake"))}) {
            Edge.ends(CHECK, "promise 14: camp", 0, 47, -1, x::camp);
        }
    }

    private static void promise14Beside() {
        for (String water : new String[] {"lake ", "swamp "}) {
            dueCamps("promise 14: beside the first cell, " + water, Check.of(water + "0;"), "1 8");
            dueCamps("promise 14: beside a row's last cell, " + water, Check.of(water + "7;"), "6 15");
            dueCamps("promise 14: beside a row's first cell, " + water, Check.of(water + "8;"), "0 9 16");
            dueCamps("promise 14: beside another row's last cell, " + water, Check.of(water + "39;"), "31 38 47");
            dueCamps("promise 14: beside the last row's first cell, " + water, Check.of(water + "40;"), "32 41");
            dueCamps("promise 14: beside the last cell, " + water, Check.of(water + "47;"), "39 46");
            dueCamps("promise 14: up, down, left, right, " + water, Check.of(water + "20;"), "12 19 21 28");
        }
        dueCamps("promise 14: no lake is one, though beside a lake", Check.of("lake 20;lake 21;"), "12 13 19 22 28 29");
        dueCamps("promise 14: no lake is one, though beside a swamp", Check.of("lake 20;swamp 21;"), "12 13 19 21 22 28 29");
        dueCamps("promise 14: a swamp by itself is none", Check.of("swamp 0;"), "1 8");
        dueCamps("promise 14: a path beside water is one", Check.of("swamp 0;path 1;"), "1 8");
        dueCamps("promise 14: a path is no water", Check.of("path 20;"), "");
    }

    /** Water on every set of the four sides: one side is enough, more are no less. */
    private static void promise14EachSide() {
        int[] sides = {12, 28, 19, 21};
        for (String water : new String[] {"lake ", "swamp "}) {
            for (int set = 0; set < 16; set++) {
                StringBuilder text = new StringBuilder();
                for (int i = 0; i < 4; i++) {
                    text.append((set >> i & 1) == 1 ? water + sides[i] + ";" : "");
                }
                due("promise 14: camp(20) of '" + text + "'", Check.of(text.toString()).camp(20), set == 0 ? 0 : 1);
            }
        }
        due("promise 14: a lake and a swamp", Check.of("lake 19;swamp 21;").camp(20), 1);
        due("promise 14: corners alone", Check.of("lake 11;swamp 13;lake 27;swamp 29;").camp(20), 0);
    }

    private static void promise14Apart() {
        // to the cabin it is 4 from 11, 8 from 2 and 18, 12 from 9
        int[] tunes = {0, 3, 4, 5, 7, 8, 9, 12, 13, 20};
        String[] camps = {"2 9 11 18", "2 9 11 18", "2 9 11 18", "2 9 18", "2 9 18", "2 9 18", "9", "9", "", ""};
        for (int i = 0; i < tunes.length; i++) {
            OnlyBatteries x = Check.of("lake 10;cabin 13;");
            x.tune(1, tunes[i]);
            dueCamps("promise 14: apart " + tunes[i], x, camps[i]);
        }
        OnlyBatteries path = Check.of("lake 10;path 13;cabin 13;");
        dueCamps("promise 14: the walk to the cabin counts, not back", path, "2 9 18");
        path.tune(1, 3);
        dueCamps("promise 14: the walk to the cabin is 3", path, "2 9 11 18");
        OnlyBatteries last = Check.of("lake 2;" + Edge.cabins(7) + "cabin 11;");
        dueCamps("promise 14: of eight cabins the last counts, too", last, "1");
        OnlyBatteries at = Check.of("lake 10;cabin 9;");
        at.tune(1, 0);
        dueCamps("promise 14: at a cabin with apart 0", at, "2 9 11 18");
        at.tune(1, 1);
        dueCamps("promise 14: at a cabin with apart 1", at, "2 11 18");
        OnlyBatteries none = Check.of("lake 1;lake 8;cabin 0;");
        none.tune(1, 20);
        dueCamps("promise 14: no walk to the cabin", none, "2 9 16");
        none.tune(1, 0);
        dueCamps("promise 14: no walk to the cabin, and the cabin", none, "0 2 9 16");
    }

    private static void promise14Long() {
        // with a load of 20 the trip is 12 from 11, 24 from 2 and 18, 36 from 9
        int[] tunes = {1, 11, 12, 13, 23, 24, 25, 35, 36, 37, 99};
        String[] camps = {"", "", "11", "11", "11", "2 11 18", "2 11 18", "2 11 18", "2 9 11 18", "2 9 11 18", "2 9 11 18"};
        for (int i = 0; i < tunes.length; i++) {
            OnlyBatteries x = Check.of("lake 10;cabin 13;");
            x.theft(0, 0, 1, 0, 20, 0);
            x.tune(0, tunes[i]);
            dueCamps("promise 14: long " + tunes[i], x, camps[i]);
        }
        OnlyBatteries far = Check.of(Edge.everywhere("swamp") + "cabin47;");
        far.tune(0, 99);
        far.theft(0, 0, 1, 0, 15, 0);
        due("promise 14: a trip of 99", far.trip(0, 0, 15), 99);
        due("promise 14: is not too long", far.camp(0), 1);
        far.theft(0, 0, 1, 0, 16, 0);
        due("promise 14: a trip of 101", far.trip(0, 0, 16), 101);
        due("promise 14: is too long, though the first is not", far.camp(0), 0);
        OnlyBatteries at = Check.of("lake 10;cabin 9;");
        at.tune(1, 0);
        at.tune(0, 1);
        at.theft(0, 0, 1, 0, 30, 0);
        dueCamps("promise 14: long 1, a trip of 0", at, "9");
    }

    private static void promise14WhichThefts() {
        OnlyBatteries none = Check.of("lake 1;lake 8;cabin 0;");
        dueCamps("promise 14: none of his thefts, all of these cells", none, "2 9 16");
        none.theft(0, 0, 1, 32, 30, 1);
        dueCamps("promise 14: theirs does not count", none, "2 9 16");
        none.tune(4, 7);
        dueCamps("promise 14: theirs, the marks just the bar", none, "2 9 16");
        none.tune(4, 8);
        dueCamps("promise 14: his, and there is no trip", none, "");
        none.tune(1, 0);
        dueCamps("promise 14: his, and a trip from the cabin alone", none, "0");
        OnlyBatteries behind = Check.of("lake 10;cabin 13;");
        behind.tune(0, 12);
        behind.theft(0, 0, 1, 0, 20, 7);
        dueCamps("promise 14: theirs alone", behind, "2 9 11 18");
        behind.theft(0, 0, 1, 0, 20, 0);
        dueCamps("promise 14: one of his behind one of theirs", behind, "11");
        OnlyBatteries never = Check.of("lake 10;cabin 13;home 0 0 59;");
        never.tune(0, 12);
        never.theft(0, 0, 1, 0, 20, 0);
        dueCamps("promise 14: one that could be in no night", never, "11");
        OnlyBatteries full = Check.of("lake 10;cabin 13;cabin 47;");
        full.tune(0, 12);
        for (int t = 0; t < 11; t++) {
            full.theft(0, 0, 1, 0, 20, 0);
        }
        dueCamps("promise 14: eleven thefts", full, "11");
        full.theft(1, 0, 1, 0, 1, 0);
        dueCamps("promise 14: the twelfth is too far", full, "");
    }

    private static void promise15Ends() {
        OnlyBatteries[] all = {new OnlyBatteries(), Check.of("lake 10;"), Check.of("lake 10;cabin 9;")};
        for (OnlyBatteries x : all) {
            Edge.ends(CHECK, "promise 15: camps", 0, 3, -1, x::camps);
        }
    }

    private static void dueAll(String name, OnlyBatteries x, int many, int best, int trips, int heaps) {
        due("promise 15: " + name + ", how many", x.camps(0), many);
        due("promise 15: " + name + ", best", x.camps(1), best);
        due("promise 15: " + name + ", its trips", x.camps(2), trips);
        due("promise 15: " + name + ", heaps", x.camps(3), heaps);
    }

    private static void promise15None() {
        dueAll("no water", new OnlyBatteries(), 0, -9, -9, 0);
        dueAll("all lakes", Check.of(Edge.everywhere("lake")), 0, -9, -9, 0);
        dueAll("all paths", Check.of(Edge.everywhere("path")), 0, -9, -9, 0);
        OnlyBatteries x = Check.of("lake 1;lake 8;cabin 0;");
        x.theft(0, 0, 1, 0, 1, 0);
        dueAll("no trip", x, 0, -9, -9, 0);
    }

    private static void promise15All() {
        OnlyBatteries x = Check.of(Edge.everywhere("swamp"));
        dueAll("all swamps", x, 48, 0, 0, 1);
        Check.type(x, Edge.everywhere("swamp") + "cabin47;");
        x.year();
        dueAll("all swamps, apart 4", x, 45, 0, 0, 1);
        x.tune(1, 3);
        dueAll("all swamps, apart 3", x, 47, 0, 0, 1);
        x.tune(1, 20);
        dueAll("all swamps, apart 20", x, 21, 0, 0, 1);
        x.tune(1, 0);
        dueAll("all swamps, apart 0", x, 48, 0, 0, 1);
        x.theft(0, 0, 1, 0, 1, 0);
        x.tune(0, 6);
        dueAll("the last cell is the best", x, 1, 47, 0, 1);
        x.tune(1, 1);
        dueAll("a quarter too short", x, 0, -9, -9, 0);
        x.tune(0, 7);
        dueAll("the last but those", x, 2, 39, 7, 2);
    }

    private static void promise15Best() {
        OnlyBatteries x = Check.of("lake 10;cabin 13;");
        dueAll("without thefts the first", x, 4, 2, 0, 4);
        x.tune(0, 99);
        x.tune(1, 5);
        x.theft(0, 0, 1, 0, 20, 0);
        dueAll("2 and 18 alike, the first", x, 3, 2, 24, 3);
        x.tune(1, 4);
        dueAll("11 is the nearest", x, 4, 11, 12, 4);
        for (int t = 1; t < 12; t++) {
            x.theft(0, 0, 1, 0, 20, 0);
        }
        dueAll("twelve trips added", x, 4, 11, 144, 4);
        OnlyBatteries far = Check.of(Edge.everywhere("swamp") + "cabin47;");
        far.tune(0, 99);
        far.tune(1, 20);
        for (int t = 0; t < 12; t++) {
            far.theft(0, 0, 1, 0, 30, 0);
        }
        // at a distance of 7 cells it is 21 there and 52.5 back; the first of those is 5
        due("promise 15: twelve long trips, best", far.camps(1), 5);
        due("promise 15: twelve long trips, added", far.camps(2), 12 * 74);
    }

    private static void promise15Heaps() {
        StringBuilder chess = new StringBuilder();
        for (int cell = 0; cell < 48; cell++) {
            chess.append((cell + cell / 8) % 2 == 0 ? "swamp" + cell + ";" : "");
        }
        dueAll("corner to corner is not beside", Check.of(chess.toString()), 24, 1, 0, 24);
        OnlyBatteries snake = Check.of(snake());
        snake.tune(1, 0);
        dueAll("a heap that winds", snake, 26, 0, 0, 1);
        dueAll("a row's end is not beside the next one's begin", Check.of("lake 15;lake 25;"), 7, 7, 0, 7);
        dueAll("the last column and the first", Check.of("swamp 7;swamp 15;swamp 16;swamp 24;"), 11, 6, 0, 2);
        // 1 is shut in; 4, 12, 20, 28 and 32 to 35 meet in a corner alone
        dueAll("a heap of one cell", Check.of("lake 0;lake 2;lake 9;lake 8;lake 10;lake 16;lake 17;lake 18;lake 3;"
                + "lake 11;lake 19;lake 24;lake 25;lake 26;lake 27;"), 9, 1, 0, 3);
    }
}
