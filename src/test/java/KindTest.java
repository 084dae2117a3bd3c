/** Promises 27 to 31: kinds and the trace, images, counts. */
public final class KindTest {
    private static final Check CHECK = new Check("KindTest");

    public static void main(String[] args) {
        kinds();
        wrongKinds();
        traces();
        images();
        slots();
        imagesHoldNothingElse();
        wrongImages();
        counts();
        CHECK.end();
    }

    private static void due(String call, long got, long want) {
        CHECK.due(call, got, want);
    }

    private static OnlyBatteries wood() {
        OnlyBatteries x = Check.of("cabin 1;cabin 2;cabin 3;moon 6 7;");
        x.theft(0, 0, 10, 1, 7, 0);
        x.theft(2, 5, 9, 62, 30, 7);
        x.theft(2, 6, 8, 0, 1, 1);
        return x;
    }

    private static void kinds() {
        OnlyBatteries x = wood();
        int[][] want = {{7, 15, 0, 16, 32, 7}, {30, 32, 360, 37, 74, 28}, {1, 1, 4, 1, 2, -1}};
        for (int t = 0; t < want.length; t++) {
            for (int kind = 0; kind < 6; kind++) {
                due("weigh " + kind + " " + t, x.weigh(kind, t), want[t][kind]);
            }
        }
        x.tune(4, 0);
        due("as if of a kind, whosever it is", x.weigh(1, 0), 15);
    }

    private static void wrongKinds() {
        OnlyBatteries x = wood();
        due("kind -1", x.weigh(-1, 0), -1000000);
        due("kind 6", x.weigh(6, 0), -1000000);
        due("theft 3", x.weigh(0, 3), -1000000);
        due("theft -1", x.weigh(0, -1), -1000000);
        due("nothing was asked", x.trace(), 0);
    }

    private static void traces() {
        int[] want = {1, 11, 101, 1011, 11011, 100001};
        for (int kind = 0; kind < 6; kind++) {
            OnlyBatteries x = wood();
            x.weigh(kind, 0);
            due("trace of " + kind, x.trace(), want[kind]);
            x.weigh(kind, 1);
            due("trace of " + kind + " twice", x.trace(), 2 * want[kind]);
            x.keep(0);
            x.weigh(kind, 1);
            x.back(0);
            due("it goes on behind back", x.trace(), 3 * want[kind]);
            x.year();
            due("it goes on behind year", x.trace(), 3 * want[kind]);
        }
    }

    private static void images() {
        OnlyBatteries x = wood();
        x.list(0, 40);
        due("keep 0", x.keep(0), 3);
        x.list(0, 50);
        x.theft(1, 20, 30, 5, 6, 3);
        due("keep 1", x.keep(1), 4);
        x.list(3, 9);
        x.list(1, 9);
        x.theft(1, 20, 31, 5, 6, 3);
        due("back 0", x.back(0), 3);
        due("thefts", x.count(1), 3);
        due("lists", x.count(4), 1);
        due("theft 3", x.about(3, 0), -1);
        due("grew 0", x.grew(0), 0);
        due("loss 0", x.loss(0), 40);
        due("a new theft has no lists", x.theft(0, 1, 2, 0, 3, 0), 3);
        due("first list", x.list(3, 5), 1);
        due("back 1", x.back(1), 4);
        due("thefts again", x.count(1), 4);
        due("lists again", x.count(4), 2);
        int[] want = {1, 20, 30, 5, 6, 3, 9, 0};
        for (int what = 0; what < 8; what++) {
            due("about 3 " + what, x.about(3, what), want[what]);
        }
        due("grew 0 again", x.grew(0), 10);
        due("back 0 again", x.back(0), 3);
        due("an image stays as it is", x.list(0, 99), 2);
        due("back once more", x.back(0), 3);
        due("list", x.list(0, 41), 2);
        due("grew", x.grew(0), 1);
        due("back 1 once more", x.back(1), 4);
        due("grew 0 as kept", x.grew(0), 10);
        x.tune(4, 30);
        due("loss 0 as kept", x.loss(0), 40);
        due("loss 1 as kept", x.loss(1), 0);
        x.tune(4, 5);
        x.back(0);
        x.list(0, 41);
        due("kept anew", x.keep(0), 3);
        x.list(0, 42);
        due("back to the new one", x.back(0), 3);
        due("grew as kept", x.grew(0), 1);
    }

    /** What was in a theft's place ahead of it is not its own. */
    private static void slots() {
        OnlyBatteries x = Check.of("cabin 1;cabin 2;");
        x.theft(0, 0, 1, 0, 1, 0);
        x.keep(0);
        x.theft(1, 0, 1, 0, 1, 0);
        x.list(1, 77);
        x.list(1, 99);
        x.keep(1);
        x.back(0);
        x.theft(1, 3, 4, 0, 1, 0);
        due("no loss", x.loss(1), 0);
        due("no growth", x.grew(1), 0);
        due("none grew", x.most(), -9);
        due("no lists", x.count(4), 0);
        x.list(1, 5);
        due("loss", x.loss(1), 5);
        x.list(1, 6);
        due("growth", x.grew(1), 1);
        x.back(1);
        due("loss as kept", x.loss(1), 77);
        due("growth as kept", x.grew(1), 22);
        Check.type(x, "cabin 3;");
        x.year();
        x.theft(0, 0, 1, 0, 1, 0);
        x.theft(0, 0, 1, 0, 1, 0);
        due("no lists in a new year", x.count(4), 0);
        due("first list in a new year", x.list(1, 8), 1);
        due("no growth in a new year", x.grew(1), 0);
        due("loss in a new year", x.loss(0), 8);
    }

    private static void imagesHoldNothingElse() {
        OnlyBatteries x = wood();
        x.keep(0);
        x.tune(0, 50);
        Check.type(x, "lake 1;");
        x.weigh(0, 0);
        x.back(0);
        due("tune", x.tune(0, 50), 50);
        due("text", x.count(3), 7);
        due("trace", x.trace(), 1);
        due("cabins", x.count(0), 3);

        OnlyBatteries none = wood();
        OnlyBatteries empty = Check.of("cabin 1;");
        due("keep of none", empty.keep(1), 0);
        empty.theft(0, 0, 1, 0, 1, 0);
        due("back to none", empty.back(1), 0);
        due("no thefts", empty.count(1), 0);
        due("each object has its own", none.back(1), -2);
        due("and nothing changes", none.count(1), 3);
    }

    private static void wrongImages() {
        OnlyBatteries x = wood();
        due("keep -1", x.keep(-1), -1);
        due("keep 2", x.keep(2), -1);
        due("back -1", x.back(-1), -1);
        due("back 2", x.back(2), -1);
        due("back 0", x.back(0), -2);
        due("back 1", x.back(1), -2);
        x.keep(1);
        due("back 0 still", x.back(0), -2);
        due("back 1 now", x.back(1), 3);
    }

    private static void counts() {
        OnlyBatteries x = wood();
        x.list(0, 1);
        x.list(1, 2);
        x.list(1, 3);
        Check.type(x, "lake");
        int[] want = {3, 3, 2, 4, 3};
        for (int what = 0; what < 5; what++) {
            due("count " + what, x.count(what), want[what]);
        }
        due("count -1", x.count(-1), -1);
        due("count 5", x.count(5), -1);
    }
}
