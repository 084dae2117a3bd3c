/** Promises 22 to 26: lists, what grew, losses, amends. */
public final class AmendsTest {
    private static final Check CHECK = new Check("AmendsTest");

    public static void main(String[] args) {
        lists();
        grew();
        most();
        losses();
        wrongPurses();
        shares();
        sharesAddUp();
        CHECK.end();
    }

    private static void due(String call, long got, long want) {
        CHECK.due(call, got, want);
    }

    private static OnlyBatteries wood(int thefts) {
        OnlyBatteries x = Check.of("cabin 1;cabin 2;cabin 3;cabin 4;");
        for (int t = 0; t < thefts; t++) {
            x.theft(t % 4, 0, 1, 0, 1, 0);
        }
        return x;
    }

    private static void lists() {
        OnlyBatteries x = wood(2);
        due("theft 2", x.list(2, 5), -1);
        due("theft -1", x.list(-1, 5), -1);
        due("coins -1", x.list(0, -1), -1);
        due("coins 10000", x.list(0, 10000), -1);
        due("none came", x.count(4), 0);
        due("0", x.list(0, 0), 1);
        due("9999", x.list(0, 9999), 2);
        due("another theft", x.list(1, 7), 1);
        due("third", x.list(0, 3), 3);
        due("fourth", x.list(0, 4), 4);
        due("fifth", x.list(0, 5), 5);
        due("sixth", x.list(0, 6), -3);
        due("BAD is ahead of FULL", x.list(0, 10000), -1);
        due("count", x.count(4), 6);
        due("the last is as it was", x.grew(0), 5);
        due("another may come still", x.list(1, 7), 2);
        due("count of all", x.count(4), 7);
    }

    private static void grew() {
        OnlyBatteries x = wood(3);
        due("theft 3", x.grew(3), -1000000);
        due("theft -1", x.grew(-1), -1000000);
        due("no list", x.grew(0), 0);
        x.list(0, 50);
        due("one list", x.grew(0), 0);
        x.list(0, 60);
        due("two", x.grew(0), 10);
        x.list(0, 20);
        due("less", x.grew(0), -30);
        x.list(0, 9999);
        x.list(0, 9998);
        due("five", x.grew(0), 9948);
        x.list(1, 9999);
        x.list(1, 0);
        due("least", x.grew(1), -9999);
    }

    private static void most() {
        OnlyBatteries first = wood(2);
        first.list(0, 1);
        first.list(0, 2);
        due("the first theft", first.most(), 0);
        OnlyBatteries x = wood(4);
        due("none", x.most(), -9);
        x.list(1, 10);
        due("no growth by one", x.most(), -9);
        x.list(1, 10);
        due("no growth by none", x.most(), -9);
        x.list(1, 9);
        due("no growth below 0", x.most(), -9);
        x.list(2, 10);
        x.list(2, 11);
        due("one", x.most(), 2);
        x.list(3, 20);
        x.list(3, 21);
        due("the first of two", x.most(), 2);
        x.list(1, 11);
        due("the first of three", x.most(), 1);
        x.list(3, 22);
        due("the last", x.most(), 3);
        x.tune(4, 0);
        due("theirs too", x.most(), 3);
    }

    private static void losses() {
        OnlyBatteries x = wood(6);
        due("none", x.loss(0), 0);
        x.list(0, 100);
        x.list(0, 900);
        x.list(4, 30);
        x.list(1, 7);
        due("two thefts, the first lists", x.loss(0), 130);
        due("one theft with, one without a list", x.loss(1), 7);
        due("no list", x.loss(2), 0);
        x.theft(0, 0, 1, 32, 1, 1);
        x.list(6, 9999);
        due("theirs do not count", x.loss(0), 130);
        x.tune(4, 8);
        due("his now", x.loss(0), 10129);
        due("cabin 4", x.loss(4), -1);
        due("cabin -1", x.loss(-1), -1);
        x.theft(3, 0, 1, 0, 1, 0);
        x.list(7, 0);
        due("a list of 0", x.loss(3), 0);
    }

    private static void wrongPurses() {
        OnlyBatteries x = wood(1);
        due("purse -1", x.amends(-1, 0), -1);
        due("purse 100000", x.amends(100000, 0), -1);
        due("cabin 4", x.amends(0, 4), -1);
        due("cabin -1", x.amends(0, -1), -1);
        due("purse 0", x.amends(0, 0), 0);
        due("no loss", x.amends(99999, 0), 0);
        due("no cabin", new OnlyBatteries().amends(5, 0), -1);
        x.list(0, 1);
        due("a loss of one, purse 0", x.amends(0, 0), 0);
        due("a loss of one, purse 1", x.amends(1, 0), 1);
    }

    private static void dueShares(String name, OnlyBatteries x, int purse, int... shares) {
        for (int k = 0; k < shares.length; k++) {
            due(name + ": cabin " + k, x.amends(purse, k), shares[k]);
        }
    }

    private static void shares() {
        OnlyBatteries x = wood(4);
        x.list(0, 10);
        x.list(1, 10);
        x.list(2, 10);
        dueShares("nothing", x, 0, 0, 0, 0, 0);
        dueShares("a coin", x, 1, 1, 0, 0, 0);
        dueShares("two coins", x, 2, 1, 1, 0, 0);
        dueShares("three coins", x, 3, 1, 1, 1, 0);
        dueShares("29", x, 29, 10, 10, 9, 0);
        dueShares("30", x, 30, 10, 10, 10, 0);
        dueShares("31", x, 31, 10, 10, 10, 0);
        x.list(3, 3);
        // 20 * 10 / 33 = 6.06, 20 * 3 / 33 = 1.81
        dueShares("who lost most by rounding", x, 20, 6, 6, 6, 2);
        // 21 * 10 / 33 = 6.36, 21 * 3 / 33 = 1.90
        dueShares("then the first", x, 21, 7, 6, 6, 2);

        OnlyBatteries y = wood(12);
        for (int t = 0; t < 12; t++) {
            y.list(t, 9999);
        }
        due("loss", y.loss(0), 29997);
        dueShares("large sums", y, 99999, 25000, 25000, 25000, 24999);
        dueShares("large sums, even", y, 99996, 24999, 24999, 24999, 24999);

        OnlyBatteries z = wood(4);
        z.list(0, 1);
        z.list(1, 9998);
        z.list(2, 1);
        dueShares("the small ones wait", z, 5000, 1, 4999, 0, 0);
        dueShares("none gets more than its loss", z, 9999, 1, 9997, 1, 0);
    }

    private static void sharesAddUp() {
        OnlyBatteries x = wood(4);
        int[] losses = {17, 5, 123, 44};
        for (int t = 0; t < 4; t++) {
            x.list(t, losses[t]);
        }
        for (int purse = 0; purse <= 100; purse++) {
            int sum = 0;
            for (int k = 0; k < 4; k++) {
                int share = x.amends(purse, k);
                sum += share;
                due("share of " + purse + " is near", Math.abs(share * 189 - purse * losses[k]) < 189 ? 1 : 0, 1);
            }
            due("shares of " + purse, sum, purse);
        }
    }
}
