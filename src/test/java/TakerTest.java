/** Promises 16 and 17: how few takers, and in which nights if it was one man. */
public final class TakerTest {
    private static final Check CHECK = new Check("TakerTest");

    public static void main(String[] args) {
        none();
        oneAfterTheOther();
        makesRoom();
        several();
        leftOut();
        byBar();
        all();
        CHECK.end();
    }

    private static void due(String call, long got, long want) {
        CHECK.due(call, got, want);
    }

    private static void dueAlone(String name, OnlyBatteries x, int... nights) {
        for (int t = 0; t < nights.length; t++) {
            due(name + ": alone " + t, x.alone(t), nights[t]);
        }
    }

    private static OnlyBatteries wood() {
        return Check.of("cabin 1;cabin 2;home 1 20 39;moon 50 51;");
    }

    private static void add(OnlyBatteries x, int cabin, int last, int missed) {
        x.theft(cabin, last, missed, 0, 1, 0);
    }

    private static void none() {
        OnlyBatteries x = wood();
        due("takers", x.takers(), 0);
        due("alone 0", x.alone(0), -1);
        due("alone -1", x.alone(-1), -1);
        due("alone 12", x.alone(12), -1);
    }

    private static void oneAfterTheOther() {
        OnlyBatteries x = wood();
        add(x, 0, 5, 9);
        add(x, 0, 5, 9);
        add(x, 1, 5, 9);
        due("takers", x.takers(), 1);
        dueAlone("as they come", x, 5, 6, 7, -1);
        add(x, 1, 5, 9);
        due("takers of four", x.takers(), 1);
        dueAlone("four", x, 5, 6, 7, 8, -1);
        add(x, 0, 0, 9);
        due("takers of five", x.takers(), 1);
        dueAlone("five", x, 5, 6, 7, 8, 0);
    }

    private static void makesRoom() {
        OnlyBatteries x = wood();
        add(x, 0, 5, 8);
        add(x, 0, 5, 7);
        add(x, 0, 5, 6);
        dueAlone("the first makes room", x, 7, 6, 5);
        add(x, 0, 6, 20);
        dueAlone("and the last", x, 7, 6, 5, 8);
        OnlyBatteries y = wood();
        add(y, 0, 3, 6);
        add(y, 0, 4, 7);
        add(y, 0, 3, 4);
        add(y, 0, 0, 4);
        due("takers", y.takers(), 1);
        dueAlone("only so far as must be", y, 4, 5, 3, 0);
    }

    private static void several() {
        OnlyBatteries x = wood();
        add(x, 0, 5, 6);
        add(x, 1, 5, 6);
        due("two in a night", x.takers(), 2);
        dueAlone("one is not enough", x, -2, -2);
        due("BAD is ahead of STATE", x.alone(2), -1);
        due("BAD below 0", x.alone(-1), -1);
        add(x, 0, 5, 7);
        add(x, 0, 5, 7);
        due("four in two nights", x.takers(), 2);
        add(x, 0, 6, 7);
        due("five in two nights", x.takers(), 3);
        // a single night with four, ahead of many with one
        OnlyBatteries y = wood();
        add(y, 0, 0, 59);
        for (int i = 0; i < 4; i++) {
            add(y, 0, 30, 31);
        }
        due("four in a night", y.takers(), 4);
    }

    private static void leftOut() {
        OnlyBatteries x = wood();
        add(x, 1, 25, 30);
        due("none that could be", x.takers(), 0);
        dueAlone("left out", x, -9);
        add(x, 0, 49, 53);
        add(x, 0, 49, 53);
        due("one", x.takers(), 1);
        dueAlone("bright nights between", x, -9, 49, 52);
        add(x, 1, 19, 21);
        add(x, 1, 39, 41);
        due("one still", x.takers(), 1);
        dueAlone("somebody is there", x, -9, 49, 52, 19, 40);
        x.theft(0, 49, 50, 0, 1, 7);
        due("theirs do not count", x.takers(), 1);
        dueAlone("theirs", x, -9, 49, 52, 19, 40, -9);
    }

    private static void byBar() {
        OnlyBatteries x = wood();
        add(x, 0, 0, 5);
        x.theft(0, 0, 1, 0, 1, 7);
        dueAlone("theirs", x, 0, -9);
        x.tune(4, 16);
        dueAlone("his now", x, 1, 0);
        x.theft(0, 0, 1, 0, 1, 0);
        due("two", x.takers(), 2);
        dueAlone("none", x, -2, -2, -2);
        x.tune(4, 0);
        due("none is his", x.takers(), 0);
        dueAlone("not his", x, -9, -9, -9);
    }

    private static void all() {
        OnlyBatteries x = wood();
        for (int t = 0; t < 12; t++) {
            add(x, t % 2, 3, 4);
        }
        due("twelve in a night", x.takers(), 12);
        OnlyBatteries y = wood();
        for (int t = 0; t < 12; t++) {
            add(y, 0, 0, 12 - t);
        }
        due("twelve in a row", y.takers(), 1);
        for (int t = 0; t < 12; t++) {
            due("row " + t, y.alone(t), 11 - t);
        }
        OnlyBatteries w = wood();
        for (int t = 0; t < 12; t++) {
            add(w, 0, 0, 30);
        }
        for (int t = 0; t < 12; t++) {
            due("as they come " + t, w.alone(t), t);
        }
        OnlyBatteries z = wood();
        for (int t = 0; t < 12; t++) {
            add(z, 0, 0, 6);
        }
        due("twelve in six", z.takers(), 2);
        OnlyBatteries v = wood();
        add(v, 0, 0, 12);
        for (int t = 1; t < 12; t++) {
            add(v, 0, t - 1, t);
        }
        due("the first makes room for eleven", v.alone(0), 11);
        due("the last stays", v.alone(11), 10);
        OnlyBatteries u = wood();
        for (int t = 0; t < 12; t++) {
            add(u, 0, 0, t < 11 ? 5 : 59);
        }
        due("eleven in five", u.takers(), 3);
    }
}
