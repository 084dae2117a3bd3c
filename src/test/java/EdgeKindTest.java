/** Promises 27 to 31 at their edges: kinds and the trace, images, counts. */
public final class EdgeKindTest {
    private static final Check CHECK = new Check("EdgeKindTest");
    private static final int[] ADDED = {1, 11, 101, 1011, 11011, 100001};

    public static void main(String[] args) {
        promise27Ends();
        promise27LeastAndGreatest();
        promise27EachOnce();
        promise28Ends();
        promise28HowMany();
        promise28KeptAnew();
        promise29Ends();
        promise29State();
        promise29All();
        promise29OtherThefts();
        promise29NothingElse();
        promise30Ends();
        promise30EmptyAndFull();
        promise31AtFirst();
        promise31GoesOn();
        CHECK.end();
    }

    private static void due(String call, long got, long want) {
        CHECK.due(call, got, want);
    }

    private static OnlyBatteries thefts(int many) {
        OnlyBatteries x = Check.of("cabin 1;cabin 2;");
        for (int t = 0; t < many; t++) {
            x.theft(t % 2, t, t + 1, 0, t + 1, 0);
        }
        return x;
    }

    // ---- kinds

    private static void promise27Ends() {
        due("promise 27: weigh of no theft", new OnlyBatteries().weigh(0, 0), -1000000);
        for (int many : new int[] {1, 2, 11, 12}) {
            OnlyBatteries x = thefts(many);
            Edge.ends(CHECK, "promise 27: weigh(kind, 0)", 0, 5, -1000000, kind -> x.weigh(kind, 0));
            due("promise 31: those refused add nothing", x.trace(), 1 + 100001);
            OnlyBatteries y = thefts(many);
            Edge.ends(CHECK, "promise 27: weigh(0, t) of " + many, 0, many - 1, -1000000, t -> y.weigh(0, t));
            Edge.ends(CHECK, "promise 27: weigh(5, t) of " + many, 0, many - 1, -1000000, t -> y.weigh(5, t));
            due("promise 31: those of no theft add nothing", y.trace(), 2 + 200002);
            due("promise 27: no such kind, no such theft", y.weigh(6, many), -1000000);
        }
    }

    private static void dueKinds(String name, OnlyBatteries x, int t, int... want) {
        for (int kind = 0; kind < 6; kind++) {
            due("promise 27: " + name + ", weigh(" + kind + ", " + t + ")", x.weigh(kind, t), want[kind]);
        }
    }

    private static void promise27LeastAndGreatest() {
        OnlyBatteries x = Check.of(Edge.cabins(8) + "home 7 0 59;");
        x.theft(7, 0, 59, 0, 1, 0);
        dueKinds("least", x, 0, 1, 1, 0, 1, 2, -6);
        x.theft(0, 0, 59, 63, 30, 7);
        dueKinds("greatest", x, 1, 30, 89, 30 * 12, 95, 190, 30);
        x.theft(0, 0, 1, 32, 30, 7);
        dueKinds("all marks", x, 2, 30, 31, 540, 32, 64, 30);
        x.theft(1, 58, 59, 10, 1, 1);
        dueKinds("marks not below 0", x, 3, 1, 2, 0, 4, 8, 0);
        x.tune(4, 0);
        dueKinds("theirs, as if of each kind", x, 3, 1, 2, 0, 4, 8, 0);
        for (int goods = 0; goods < 64; goods += 9) {
            OnlyBatteries y = Check.of("cabin 1;");
            y.theft(0, 0, 1, goods, 1, 0);
            due("promise 27: goods " + goods, y.weigh(3, 0), 2 + Integer.bitCount(goods));
        }
    }

    private static void promise27EachOnce() {
        for (int kind = 0; kind < 6; kind++) {
            OnlyBatteries x = thefts(2);
            for (int i = 1; i <= 9; i++) {
                x.weigh(kind, i % 2);
                due("promise 31: " + i + " times kind " + kind, x.trace(), (long) ADDED[kind] * i);
            }
        }
        OnlyBatteries x = thefts(1);
        for (int i = 0; i < 450; i++) {
            x.weigh(i % 2 == 0 ? 5 : 4, 0);
        }
        due("promise 31: asked 450 times", x.trace(), 225L * (100001 + 11011));
    }

    // ---- images

    private static void promise28Ends() {
        for (int many : new int[] {0, 1, 12}) {
            Edge.ends(CHECK, "promise 28: keep with " + many, 0, 1, -1, image -> thefts(many).keep(image));
        }
    }

    private static void promise28HowMany() {
        for (int many = 0; many <= 12; many++) {
            OnlyBatteries x = thefts(many);
            due("promise 28: keep(0) of " + many, x.keep(0), many);
            due("promise 28: keep(1) of " + many, x.keep(1), many);
            due("promise 29: back(1) of " + many, x.back(1), many);
            due("promise 30: count(1) of " + many, x.count(1), many);
        }
        due("promise 28: without cabins", new OnlyBatteries().keep(0), 0);
    }

    private static void promise28KeptAnew() {
        OnlyBatteries x = thefts(3);
        x.keep(0);
        x.keep(1);
        x.theft(0, 0, 1, 0, 1, 0);
        due("promise 28: kept anew", x.keep(1), 4);
        due("promise 29: the other is as it was", x.back(0), 3);
        due("promise 29: the one kept anew", x.back(1), 4);
        Check.type(x, "cabin 3;");
        x.year();
        due("promise 28: kept empty", x.keep(1), 0);
        x.theft(0, 0, 1, 0, 1, 0);
        due("promise 29: back to empty", x.back(1), 0);
        due("promise 30: no theft", x.count(1), 0);
        due("promise 10: no theft", x.about(0, 0), -1);
    }

    private static void promise29Ends() {
        OnlyBatteries x = thefts(1);
        for (int image : Edge.beyond(0, 1)) {
            due("promise 29: BAD is ahead of STATE, back(" + image + ")", x.back(image), -1);
        }
        x.keep(0);
        x.keep(1);
        Edge.ends(CHECK, "promise 29: back", 0, 1, -1, x::back);
    }

    private static void promise29State() {
        OnlyBatteries x = thefts(2);
        due("promise 29: none kept, 0", x.back(0), -2);
        due("promise 29: none kept, 1", x.back(1), -2);
        due("promise 29: nothing changes", x.count(1), 2);
        x.keep(1);
        due("promise 29: 1 alone is kept, 0", x.back(0), -2);
        due("promise 29: 1 alone is kept, 1", x.back(1), 2);
        x.keep(2);
        due("promise 29: a refused one keeps none", x.back(0), -2);
        due("promise 29: back uses none up", x.back(1), 2);
        Check.type(x, "cabin 1");
        due("promise 4: a fault", x.year(), -17);
        due("promise 29: a fault leaves them", x.back(1), 2);
        x.clear();
        x.year();
        due("promise 29: none behind a year, 0", x.back(0), -2);
        due("promise 29: none behind a year, 1", x.back(1), -2);
        due("promise 29: no such image behind a year", x.back(2), -1);
    }

    /** Twelve thefts with five lists each, kept, changed and brought back. */
    private static void promise29All() {
        OnlyBatteries x = Check.of(Edge.cabins(8));
        for (int t = 0; t < 12; t++) {
            x.theft(t % 8, t, t + 2, t * 5, t + 19, t % 8);
        }
        for (int i = 0; i < 4; i++) {
            for (int t = 0; t < 12; t++) {
                x.list(t, 100 * t + i);
            }
        }
        due("promise 28: keep", x.keep(0), 12);
        for (int t = 0; t < 12; t++) {
            x.list(t, 9999);
        }
        due("promise 28: keep the other", x.keep(1), 12);
        for (int image = 0; image < 2; image++) {
            due("promise 29: back(" + image + ")", x.back(image), 12);
            due("promise 30: lists", x.count(4), 48 + 12 * image);
            for (int t = 0; t < 12; t++) {
                int[] want = {t % 8, t, t + 2, t * 5, t + 19, t % 8};
                for (int what = 0; what < 6; what++) {
                    due("promise 29: about(" + t + ", " + what + ") of " + image, x.about(t, what), want[what]);
                }
                due("promise 29: grew(" + t + ") of " + image, x.grew(t), image == 0 ? 3 : 9999 - 100 * t);
            }
        }
        due("promise 29: a 6th list behind back(1)", x.list(11, 1), -3);
        x.back(0);
        due("promise 29: the 5th behind back(0)", x.list(11, 1), 5);
        due("promise 29: the 13th theft behind back", x.theft(0, 0, 1, 0, 1, 0), -3);
    }

    /** Other thefts came in their places; what an image has is brought back whole, and what comes anew is new. */
    private static void promise29OtherThefts() {
        OnlyBatteries x = Check.of(Edge.cabins(8));
        due("promise 28: keep(0) of none", x.keep(0), 0);
        for (int t = 0; t < 12; t++) {
            x.theft(t % 8, t, t + 2, t, t + 1, t % 8);
            x.list(t, 100 + t);
            x.list(t, 200);
        }
        due("promise 28: keep(1) of twelve", x.keep(1), 12);
        due("promise 29: back to none", x.back(0), 0);
        due("promise 24: none grew", x.most(), -9);
        for (int t = 0; t < 12; t++) {
            due("promise 9: another theft " + t, x.theft(7 - t % 8, 40 + t, 59, 63 - t, 30 - t, 0), t);
            due("promise 23: it has no lists", x.grew(t), 0);
        }
        due("promise 30: no lists", x.count(4), 0);
        due("promise 24: none grew of the others", x.most(), -9);
        for (int k = 0; k < 8; k++) {
            due("promise 25: no loss at " + k, x.loss(k), 0);
        }
        due("promise 22: the first list of the others", x.list(0, 7), 1);
        due("promise 23: with one", x.grew(0), 0);
        due("promise 29: back to twelve", x.back(1), 12);
        for (int t = 0; t < 12; t++) {
            int[] want = {t % 8, t, t + 2, t, t + 1, t % 8};
            for (int what = 0; what < 6; what++) {
                due("promise 29: about(" + t + ", " + what + ") behind others", x.about(t, what), want[what]);
            }
            due("promise 29: grew(" + t + ") behind others", x.grew(t), 100 - t);
        }
        due("promise 29: lists behind others", x.count(4), 24);
        x.theft(0, 0, 1, 0, 1, 0);
        due("promise 29: none came beyond twelve", x.count(1), 12);
    }

    private static void promise29NothingElse() {
        OnlyBatteries x = thefts(1);
        x.keep(0);
        x.tune(0, 99);
        x.weigh(5, 0);
        Check.type(x, "lake 7;");
        x.keep(1);
        due("promise 29: back", x.back(0), 1);
        due("promise 29: the tune stays", x.tune(0, 99), 99);
        due("promise 29: the trace goes on", x.trace(), 100001);
        due("promise 29: the text stays", x.count(3), 7);
        due("promise 29: the cabins stay", x.count(0), 2);
        due("promise 29: the other image stays", x.back(1), 1);
        due("promise 29: the ground stays", x.ground(7), 0);
    }

    // ---- counts

    private static void promise30Ends() {
        for (OnlyBatteries x : new OnlyBatteries[] {new OnlyBatteries(), thefts(12)}) {
            Edge.ends(CHECK, "promise 30: count", 0, 4, -1, x::count);
        }
    }

    private static void dueCounts(String name, OnlyBatteries x, int... want) {
        for (int what = 0; what < 5; what++) {
            due("promise 30: " + name + ", count(" + what + ")", x.count(what), want[what]);
        }
    }

    private static void promise30EmptyAndFull() {
        dueCounts("a new object", new OnlyBatteries(), 0, 0, 0, 0, 0);
        OnlyBatteries x = Check.of(Edge.cabins(8));
        dueCounts("eight cabins", x, 8, 0, 0, 0, 0);
        for (int t = 0; t < 12; t++) {
            x.theft(t % 8, 0, 1, 0, 1, t < 5 ? 1 : 2);
            for (int i = 0; i < 5; i++) {
                x.list(t, i);
            }
        }
        Check.type(x, " ".repeat(400));
        dueCounts("all is full", x, 8, 12, 5, 400, 60);
        x.theft(0, 0, 1, 0, 1, 0);
        x.list(0, 0);
        x.type(0, 1);
        dueCounts("all is full, and more refused", x, 8, 12, 5, 400, 60);
        x.tune(4, 4);
        dueCounts("none is his", x, 8, 12, 0, 400, 60);
        x.tune(4, 6);
        dueCounts("all are his", x, 8, 12, 12, 400, 60);
        x.year();
        dueCounts("a year of none", x, 0, 0, 0, 0, 0);
    }

    private static void promise31AtFirst() {
        OnlyBatteries x = thefts(12);
        due("promise 31: at first", x.trace(), 0);
        x.takers();
        x.alone(0);
        x.camps(2);
        x.about(0, 6);
        x.could(0, 0);
        x.watch(255, 0, 59);
        x.place(3, 5, 0);
        x.amends(5, 0);
        x.most();
        due("promise 31: weigh() alone adds", x.trace(), 0);
    }

    private static void promise31GoesOn() {
        OnlyBatteries x = thefts(1);
        x.keep(0);
        x.weigh(4, 0);
        x.back(0);
        due("promise 31: behind back", x.trace(), 11011);
        x.back(1);
        due("promise 31: behind a refused back", x.trace(), 11011);
        x.year();
        due("promise 31: behind year", x.trace(), 11011);
        x.weigh(0, 0);
        due("promise 31: no theft any more", x.trace(), 11011);
        Check.type(x, "cabin 1;");
        x.year();
        x.theft(0, 0, 1, 0, 1, 0);
        x.weigh(0, 0);
        due("promise 31: goes on in the new year", x.trace(), 11012);
        x.clear();
        due("promise 31: behind clear", x.trace(), 11012);
    }
}
