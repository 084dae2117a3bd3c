/** Promises 1 to 8: a new object, the text, the year, the tunes. */
public final class YearTest {
    private static final Check CHECK = new Check("YearTest");

    public static void main(String[] args) {
        newObject();
        typing();
        clearing();
        items();
        blanks();
        faultsOfTokens();
        faultsOfNumbers();
        faultsOfCabins();
        tooEarly();
        faultChangesNothing();
        longText();
        yearAnew();
        grounds();
        cabins();
        freeNights();
        tunes();
        CHECK.end();
    }

    private static void due(String call, long got, long want) {
        CHECK.due(call, got, want);
    }

    private static void fault(String text, int place) {
        due("year() of '" + text + "'", Check.read(text), -10 - place);
    }

    private static void newObject() {
        OnlyBatteries x = new OnlyBatteries();
        for (int what = 0; what <= 4; what++) {
            due("new count " + what, x.count(what), 0);
        }
        for (int cell = 0; cell < 48; cell++) {
            due("new ground " + cell, x.ground(cell), 0);
        }
        due("new trace", x.trace(), 0);
        due("new cabin", x.cabin(0), -1);
        due("new free", x.free(0, 0), -1);
        due("new takers", x.takers(), 0);
        due("new most", x.most(), -9);
        due("new place", x.place(1, 1, 0), -9);
        due("new camps", x.camps(0), 0);
        due("new best camp", x.camps(1), -9);
        due("new trips", x.camps(2), -9);
        due("new heaps", x.camps(3), 0);
        due("new walk", x.walk(0, 47), 24);
        due("new back", x.back(0), -2);
        due("new clear", x.clear(), 0);
    }

    private static void typing() {
        OnlyBatteries x = new OnlyBatteries();
        due("n 0", x.type(59, 0), -1);
        due("n 9", x.type(59, 9), -1);
        due("n -1", x.type(59, -1), -1);
        due("n least", x.type(59, Integer.MIN_VALUE), -1);
        due("n most", x.type(59, Integer.MAX_VALUE), -1);
        due("no byte came", x.count(3), 0);
        for (int n = 1; n <= 8; n++) {
            due("n " + n, x.type(-1L, n), n * (n + 1) / 2);
        }
        due("clear", x.clear(), 36);

        // the highest of the lowest n bytes comes first; bytes above them do not count
        x.type(0x7F7F7F7F70617468L, 4);
        x.type(0x3BL << 8 | 0x37L << 16, 3);
        due("bytes", x.count(3), 7);
        due("the last byte is 0, which begins none", x.year(), -10 - 6);
        x.clear();
        x.type(0x7061746837L, 5);
        x.type(0xFFFFFFFFFFFFFF3BL, 1);
        due("path7;", x.year(), 1);
        due("ground 7", x.ground(7), 1);

        for (int i = 0; i < 49; i++) {
            x.type(0x2020202020202020L, 8);
        }
        due("396", x.type(0x20202020L, 4), 396);
        due("5 more do not go in", x.type(0, 5), -3);
        due("BAD is ahead of FULL", x.type(0, 9), -1);
        due("nothing came", x.count(3), 396);
        due("400", x.type(0x20202020L, 4), 400);
        due("401", x.type(0x20L, 1), -3);
        due("8 more", x.type(0x20L, 8), -3);
        due("400 blanks are no item", x.year(), 0);
        due("empty then", x.count(3), 0);
    }

    private static void clearing() {
        OnlyBatteries x = new OnlyBatteries();
        Check.type(x, "lake 1;");
        due("clear", x.clear(), 7);
        due("count", x.count(3), 0);
        due("clear again", x.clear(), 0);
        due("year of none", x.year(), 0);
        due("ground 1", x.ground(1), 0);
    }

    private static void items() {
        due("none", Check.read(""), 0);
        due("path", Check.read("path 0;"), 1);
        due("all", Check.read("path 0;swamp 1;lake 47;cabin 3;home 0 0 59;moon 59 59;snow 0 0;"), 7);
        due("told again", Check.read("lake 3;path 3;cabin 3;swamp 3;path 3;"), 5);
        due("eight cabins", Check.read("cabin 0;cabin 1;cabin 2;cabin 3;cabin 4;cabin 5;cabin 6;cabin 7;"), 8);
        due("home of the last", Check.read("cabin 0;cabin 1;home 1 3 3;home 1 0 59;home 0 0 0;"), 5);
    }

    private static void blanks() {
        due("no blanks", Check.read("cabin0;home0 1 2;moon3 4;snow5 6;path7;"), 5);
        due("many blanks", Check.read("   path   7   ;  moon  1   2 ; "), 2);
        due("blanks alone", Check.read("     "), 0);
        fault("pathpath 7;", 0);
        fault("path 7;pa th 7;", 7);
        fault("moon 1 2;moon12;", 15);
        fault("\tpath 7;", 0);
        fault("path\n7;", 4);
        fault("path 7;\u00a0", 7);
    }

    private static void faultsOfTokens() {
        fault(";", 0);
        fault("path 1;;", 7);
        fault("  7;", 2);
        fault("path ;", 5);
        fault("path path 1;", 5);
        fault("path 1 2;", 7);
        fault("path 1 path 2;", 7);
        fault("moon 1;", 6);
        fault("moon 1 2 3;", 9);
        fault("snow ;", 5);
        fault("cabin 1;home 0 ;", 15);
        fault("cabin 1;home 0 1;", 16);
        fault("cabin 1;home 0 1 2 3;", 19);
        fault("cabin ;", 6);
        fault("river 1;", 0);
        fault(" paths 1;", 1);
        fault("pat 1;", 0);
        fault("lak", 0);
        fault("homes 0 1 2;", 0);
        fault("moo 1 2;", 0);
        fault("snows 1 2;", 0);
        fault("swam 1;", 0);
        fault("cabins 1;", 0);
        fault("a", 0);
        fault("Path 1;", 0);
        fault("pAth 1;", 0);
        fault("path -1;", 5);
        fault("path 1,", 6);
        fault("path 1:", 6);
        fault("path 1/", 6);
        fault("path `", 5);
        fault("path {", 5);
        fault("path 1\u00ff", 6);
        fault("path 1\u0000;", 6);
        fault("path 1!;", 6);
    }

    private static void faultsOfNumbers() {
        due("path 47", Check.read("path 47;"), 1);
        fault("path 48;", 5);
        fault("path 99;", 5);
        fault("path 100;", 5);
        fault("path 4294967296;", 5);
        fault("path 00;", 5);
        fault("path 01;", 5);
        fault("path 007;", 5);
        fault("swamp 48;", 6);
        fault("lake 48;", 5);
        fault("cabin 48;", 6);
        fault("moon 60 60;", 5);
        fault("moon 0 60;", 7);
        fault("moon 5 4;", 7);
        fault("moon 05 6;", 5);
        fault("moon 5 06;", 7);
        fault("snow 10 9;", 8);
        fault("snow 59 100;", 8);
        due("snow 59 59", Check.read("snow 59 59;"), 1);
        fault("cabin 0;home 0 60 60;", 15);
        fault("cabin 0;home 0 7 6;", 17);
        fault("cabin 0;home 0 7 60;", 17);
        due("home 0 59 59", Check.read("cabin 0;home 0 59 59;"), 2);
        fault("1000000000000000000000000000000000000", 0);
        fault("0", 0);
    }

    private static void faultsOfCabins() {
        fault("cabin 0;cabin 1;cabin 2;cabin 3;cabin 4;cabin 5;cabin 6;cabin 7; cabin 8;", 65);
        fault("cabin 0;cabin 1;cabin 2;cabin 3;cabin 4;cabin 5;cabin 6;cabin 7;cabin", 64);
        fault("cabin 5;cabin 5;", 14);
        fault("cabin 5;cabin 6;cabin 5;", 22);
        fault("lake 5;cabin 5;", 13);
        fault("cabin 5;lake 5;", 13);
        fault("cabin 6;cabin 5;lake 5;", 21);
        due("no lake any more", Check.read("lake 5;swamp 5;cabin 5;"), 3);
        due("swamp on a cabin", Check.read("cabin 5;swamp 5;path 5;lake 6;"), 4);
        fault("home 0 1 2;", 5);
        fault("cabin 1;home 1 1 2;", 13);
        fault("cabin 1;home 8 1 2;", 13);
        fault("home 0 1 2;cabin 1;", 5);
    }

    private static void tooEarly() {
        fault("path", 4);
        fault("path  ", 6);
        fault("path 1", 6);
        fault("path 1   ", 9);
        fault("moon 1 ", 7);
        fault("moon 1 2", 8);
        fault("cabin 1;home", 12);
        fault("cabin 1;home 0", 14);
        fault("cabin 1;home 0 1", 16);
        fault("cabin 1;home 0 1 2", 18);
        fault("cabin", 5);
    }

    private static void faultChangesNothing() {
        OnlyBatteries x = Check.of("path 3;cabin 9;home 0 2 3;snow 5 6;");
        x.theft(0, 0, 9, 0, 1, 0);
        x.list(0, 5);
        x.keep(1);
        Check.type(x, "lake 3;cabin 1;cabin 2;moon 0 59;;");
        due("fault", x.year(), -10 - 33);
        due("fault again", x.year(), -10 - 33);
        due("the text stays", x.count(3), 34);
        due("ground", x.ground(3), 1);
        due("cabins", x.count(0), 1);
        due("cabin", x.cabin(0), 9);
        due("free", x.free(0, 4), 1);
        due("thefts", x.count(1), 1);
        due("lists", x.count(4), 1);
        due("image", x.back(1), 1);
        due("walk", x.walk(2, 3), 1);
    }

    private static void longText() {
        StringBuilder text = new StringBuilder();
        for (int i = 0; i < 50; i++) {
            text.append("path 12;");
        }
        due("400 bytes", Check.read(text.toString()), 50);
        text.setCharAt(399, ' ');
        fault(text.toString(), 400);
        text.setCharAt(399, 'a');
        fault(text.toString(), 399);
    }

    private static void yearAnew() {
        OnlyBatteries x = Check.of("lake 3;swamp 4;cabin 9;home 0 2 3;snow 5 6;moon 8 9;");
        due("walk ahead", x.walk(2, 4), 9);
        x.tune(4, 20);
        x.theft(0, 0, 9, 0, 1, 0);
        x.weigh(5, 0);
        x.keep(0);
        x.keep(1);
        Check.type(x, "cabin 10;");
        due("year", x.year(), 1);
        due("lake is gone", x.ground(3), 0);
        due("walk", x.walk(2, 4), 4);
        due("walk where the lake was", x.walk(3, 3), 0);
        due("no camp, for there is no water", x.camps(0), 0);
        due("cabins", x.count(0), 1);
        due("cabin", x.cabin(0), 10);
        for (int night = 0; night < 60; night++) {
            due("free " + night, x.free(0, night), 1);
        }
        due("thefts", x.count(1), 0);
        due("lists", x.count(4), 0);
        due("image 0", x.back(0), -2);
        due("image 1", x.back(1), -2);
        due("trace goes on", x.trace(), 100001);
        due("tunes stay", x.tune(4, 5), 20);
        due("year of none", x.year(), 0);
        due("no cabin", x.count(0), 0);
        due("no cabin's cell", x.cabin(0), -1);
    }

    private static void grounds() {
        OnlyBatteries x = Check.of("path 0;swamp 1;lake 2;path 45;swamp 46;lake 47;swamp 10;lake 10;path 10;");
        due("path", x.ground(0), 1);
        due("swamp", x.ground(1), 2);
        due("lake", x.ground(2), 3);
        due("wood", x.ground(3), 0);
        due("path 45", x.ground(45), 1);
        due("swamp 46", x.ground(46), 2);
        due("lake 47", x.ground(47), 3);
        due("told again", x.ground(10), 1);
        due("48", x.ground(48), -1);
        due("-1", x.ground(-1), -1);
        due("64", x.ground(64), -1);
        due("most", x.ground(Integer.MAX_VALUE), -1);
        due("least", x.ground(Integer.MIN_VALUE), -1);
    }

    private static void cabins() {
        OnlyBatteries x = Check.of("cabin 47;cabin 0;cabin 13;");
        due("0", x.cabin(0), 47);
        due("1", x.cabin(1), 0);
        due("2", x.cabin(2), 13);
        due("3", x.cabin(3), -1);
        due("8", x.cabin(8), -1);
        due("-1", x.cabin(-1), -1);
        due("count", x.count(0), 3);
    }

    private static void freeNights() {
        OnlyBatteries x = Check.of("cabin 1;cabin 2;home 1 10 12;home 1 12 14;home 0 0 0;moon 20 21;snow 30 30;moon 59 59;");
        int[] taken = {0, 20, 21, 30, 59};
        int[] takenToo = {10, 11, 12, 13, 14, 20, 21, 30, 59};
        for (int night = 0; night < 60; night++) {
            due("free 0 " + night, x.free(0, night), isIn(taken, night) ? 0 : 1);
            due("free 1 " + night, x.free(1, night), isIn(takenToo, night) ? 0 : 1);
        }
        OnlyBatteries y = Check.of("cabin 5;cabin 6;home 1 3 5;cabin 0;cabin 1;path 0;moon 0 1;");
        for (int k = 0; k < 4; k++) {
            due("at home, cabin " + k, y.free(k, 4), k == 1 ? 0 : 1);
            due("moon, cabin " + k, y.free(k, 1), 0);
            due("dark, cabin " + k, y.free(k, 2), 1);
        }
        due("night 60", x.free(0, 60), -1);
        due("night 64", x.free(0, 64), -1);
        due("night -1", x.free(0, -1), -1);
        due("cabin 2", x.free(2, 0), -1);
        due("cabin -1", x.free(-1, 0), -1);
    }

    private static boolean isIn(int[] row, int v) {
        for (int one : row) {
            if (one == v) {
                return true;
            }
        }
        return false;
    }

    private static void tunes() {
        int[] first = {32, 4, 2, 30, 5};
        int[] least = {1, 0, 1, 1, 0};
        int[] most = {99, 20, 9, 60, 30};
        OnlyBatteries x = new OnlyBatteries();
        for (int what = 0; what < 5; what++) {
            due("below " + what, x.tune(what, least[what] - 1), -1);
            due("above " + what, x.tune(what, most[what] + 1), -1);
            due("first " + what, x.tune(what, least[what]), first[what]);
            due("least " + what, x.tune(what, most[what]), least[what]);
            due("most " + what, x.tune(what, most[what]), most[what]);
        }
        due("tune 5", x.tune(5, 3), -1);
        due("tune -1", x.tune(-1, 3), -1);
    }
}
