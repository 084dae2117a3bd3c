/** Promises 12 to 15: walks, trips, camps. */
public final class WalkTest {
    private static final Check CHECK = new Check("WalkTest");

    public static void main(String[] args) {
        walks();
        walls();
        roundAbout();
        longWays();
        trips();
        camps();
        apart();
        hisThefts();
        heaps();
        CHECK.end();
    }

    private static void due(String call, long got, long want) {
        CHECK.due(call, got, want);
    }

    private static void walks() {
        OnlyBatteries x = Check.of("path 1;swamp 2;lake 3;swamp 8;");
        due("to itself", x.walk(0, 0), 0);
        due("into a path", x.walk(0, 1), 1);
        due("out of a path", x.walk(1, 0), 2);
        due("into a swamp", x.walk(1, 2), 3);
        due("into a swamp below", x.walk(0, 8), 3);
        due("into wood", x.walk(8, 0), 2);
        due("into a lake", x.walk(2, 3), -9);
        due("out of a lake", x.walk(3, 2), -9);
        due("lake to itself", x.walk(3, 3), -9);
        due("no going round a row's end", x.walk(39, 40), 16);
        due("from -1", x.walk(-1, 0), -1);
        due("from 48", x.walk(48, 0), -1);
        due("to -1", x.walk(0, -1), -1);
        due("to 48", x.walk(0, 48), -1);
        due("BAD, though a lake", x.walk(3, 48), -1);
    }

    private static void walls() {
        OnlyBatteries y = Check.of("lake 0;lake 47;");
        due("the first cell is a lake", y.walk(0, 0), -9);
        due("the last cell is a lake", y.walk(47, 47), -9);
        OnlyBatteries x = Check.of("lake 1;lake 8;lake 9;lake 38;lake 46;lake 39;");
        due("shut in", x.walk(0, 2), -9);
        due("shut out", x.walk(2, 0), -9);
        due("to itself", x.walk(0, 0), 0);
        due("the other corner", x.walk(47, 0), -9);
        due("between", x.walk(2, 45), 16);
    }

    private static void roundAbout() {
        // by paths along the edge it is nearer than straight through swamps
        OnlyBatteries x = Check.of("swamp 1;swamp 2;swamp 3;path 8;path 9;path 10;path 11;path 12;path 4;");
        due("round about", x.walk(0, 4), 6);
        due("and back", x.walk(4, 0), 7);
        due("through a swamp's side", x.walk(0, 2), 6);
    }

    private static void longWays() {
        StringBuilder text = new StringBuilder("cabin 0;");
        for (int column = 0; column < 7; column++) {
            text.append("lake ").append(8 + column).append(";lake ").append(25 + column).append(";lake ")
                    .append(40 + column).append(';');
        }
        OnlyBatteries woods = Check.of(text.toString());
        due("round the lakes", woods.walk(0, 39), 2 * 25);
        due("to the last", woods.walk(0, 47), 2 * 26);
        for (int column = 1; column < 8; column++) {
            text.append("swamp ").append(column).append(";swamp ").append(16 + column).append(';');
        }
        text.append("swamp 16;swamp 15;swamp 24;swamp 32;swamp 33;swamp 34;");
        OnlyBatteries swamps = Check.of(text.toString());
        due("through swamps", swamps.walk(0, 34), 3 * 20);
        due("and back", swamps.walk(34, 0), 3 * 19 + 2);
        due("and on through wood", swamps.walk(0, 47), 3 * 20 + 2 * 6);
        due("a trip so far", swamps.trip(34, 0, 30), 59 + 150);
    }

    private static void trips() {
        OnlyBatteries w = Check.of("path 0;path 1;cabin 1;");
        due("21 twentieths, rounded up", w.trip(0, 0, 1), 1 + 2);
        due("39 twentieths", w.trip(0, 0, 19), 1 + 2);
        due("40 twentieths", w.trip(0, 0, 20), 1 + 2);
        due("41 twentieths", w.trip(0, 0, 21), 1 + 3);
        OnlyBatteries x = Check.of("path 0;cabin 3;swamp 5;cabin 5;lake 47;");
        due("load 1", x.trip(0, 0, 1), 6 + 6);
        due("load 20", x.trip(0, 0, 20), 6 + 10);
        due("load 30", x.trip(0, 0, 30), 6 + 13);
        due("load 4", x.trip(0, 0, 4), 6 + 6);
        due("load 5", x.trip(0, 0, 5), 6 + 7);
        due("at the cabin", x.trip(3, 0, 30), 0);
        due("from a swamp's cabin", x.trip(4, 1, 1), 3 + 3);
        due("from a lake", x.trip(47, 0, 1), -9);
        due("load 0", x.trip(0, 0, 0), -1);
        due("load 31", x.trip(0, 0, 31), -1);
        due("cabin 2", x.trip(0, 2, 1), -1);
        due("cabin -1", x.trip(0, -1, 1), -1);
        due("cell 48", x.trip(48, 0, 1), -1);
        due("cell -1", x.trip(-1, 0, 1), -1);
        due("BAD, though a lake", x.trip(47, 0, 31), -1);
        OnlyBatteries y = Check.of("lake 1;lake 8;cabin 0;");
        due("no way", y.trip(9, 0, 1), -9);
        due("no way, but there", y.trip(0, 0, 1), 0);
    }

    private static String campsOf(OnlyBatteries x) {
        StringBuilder row = new StringBuilder();
        for (int cell = 0; cell < 48; cell++) {
            int camp = x.camp(cell);
            if (camp == 1) {
                row.append(cell).append(' ');
            } else {
                due("camp " + cell, camp, 0);
            }
        }
        return row.toString().trim();
    }

    private static void dueCamps(String name, OnlyBatteries x, String cells, int best, int trips, int heaps) {
        String got = campsOf(x);
        due(name + ": camps are " + got + ", due " + cells, got.equals(cells) ? 1 : 0, 1);
        due(name + " camps 0", x.camps(0), cells.isEmpty() ? 0 : cells.split(" ").length);
        due(name + " camps 1", x.camps(1), best);
        due(name + " camps 2", x.camps(2), trips);
        due(name + " camps 3", x.camps(3), heaps);
    }

    private static void camps() {
        dueCamps("all wood", new OnlyBatteries(), "", -9, -9, 0);
        dueCamps("a lake", Check.of("lake 10;"), "2 9 11 18", 2, 0, 4);
        dueCamps("the first cell", Check.of("lake 1;"), "0 2 9", 0, 0, 3);
        dueCamps("the last cell", Check.of("lake 39;"), "31 38 47", 31, 0, 3);
        dueCamps("a swamp is one only beside another", Check.of("swamp 10;"), "2 9 11 18", 2, 0, 4);
        dueCamps("two swamps", Check.of("swamp 10;swamp 11;"), "2 3 9 10 11 12 18 19", 2, 0, 1);
        dueCamps("a lake at a row's end", Check.of("lake 15;"), "7 14 23", 7, 0, 3);
        dueCamps("a lake at a row's begin", Check.of("lake 16;"), "8 17 24", 8, 0, 3);
        dueCamps("lakes in corners", Check.of("lake 0;lake 47;"), "1 8 39 46", 1, 0, 4);
        OnlyBatteries x = Check.of("lake 10;");
        due("camp -1", x.camp(-1), -1);
        due("camp 48", x.camp(48), -1);
        due("camp of a lake", x.camp(10), 0);
        due("camps -1", x.camps(-1), -1);
        due("camps 4", x.camps(4), -1);
    }

    private static void apart() {
        String wood = "lake 10;lake 24;lake 33;lake 40;cabin 2;cabin 32;";
        dueCamps("apart 4", Check.of(wood), "9 11 16 18 25 34 41", 9, 0, 7);
        OnlyBatteries x = Check.of(wood);
        x.tune(1, 0);
        dueCamps("apart 0", x, "2 9 11 16 18 25 32 34 41", 2, 0, 9);
        x.tune(1, 5);
        dueCamps("apart 5", x, "16 18 25 34 41", 16, 0, 5);
        x.tune(1, 20);
        dueCamps("apart 20", x, "", -9, -9, 0);
        // 32 is shut in: from it there is no walk to the other cabin, and to it none
        x.tune(1, 0);
        x.theft(1, 0, 1, 0, 1, 0);
        dueCamps("shut in", x, "32", 32, 0, 1);
    }

    private static void hisThefts() {
        OnlyBatteries x = Check.of("lake 10;cabin 14;home 0 0 59;");
        x.theft(0, 0, 1, 0, 1, 7);
        dueCamps("theirs do not count", x, "2 9 11 18", 2, 0, 4);
        x.theft(0, 0, 1, 0, 20, 0);
        // from 11: 6 there and 12 back; from 9: 14 and 28; from 2: 10 and 20; from 18: 10 and 20
        dueCamps("one that could be in no night", x, "2 11 18", 11, 18, 3);
        x.tune(0, 30);
        dueCamps("30 is not too long", x, "2 11 18", 11, 18, 3);
        x.tune(0, 29);
        dueCamps("29 is", x, "11", 11, 18, 1);
        x.tune(0, 17);
        dueCamps("17 is too long for all", x, "", -9, -9, 0);
        x.tune(0, 99);
        x.theft(0, 0, 1, 0, 1, 0);
        dueCamps("two thefts", x, "2 9 11 18", 11, 18 + 13, 4);
        x.tune(4, 30);
        dueCamps("all his", x, "2 9 11 18", 11, 18 + 13 + 13, 4);

        OnlyBatteries y = Check.of("lake 10;cabin 2;");
        y.tune(1, 0);
        y.theft(0, 0, 1, 0, 1, 0);
        y.tune(0, 1);
        dueCamps("a camp at the cabin", y, "2", 2, 0, 1);

        // 17 and 19 are as near to the cabin, then 9 and 11; 26 is too near
        OnlyBatteries z = Check.of("lake 10;lake 2;lake 18;cabin 34;");
        z.theft(0, 0, 1, 0, 20, 0);
        dueCamps("the first of two", z, "1 3 9 11 17 19", 17, 18, 2);
        z.tune(1, 8);
        dueCamps("the first of two, apart", z, "1 3 9 11", 9, 24, 2);
    }

    private static void heaps() {
        due("a heap round a corner", Check.of("swamp 0;swamp 1;swamp 2;swamp 8;").camps(3), 1);
        due("heaps touch at no corner", Check.of("lake 0;lake 18;").camps(3), 6);
        // 23 ends a row, and 24 begins the next
        due("no heap goes round a row's end", Check.of("lake 15;lake 25;").camps(3), 7);
    }
}
