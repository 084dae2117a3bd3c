/** Promises 22 to 26 at their edges: lists, what grew, losses, amends. */
public final class EdgeCoinTest {
    private static final Check CHECK = new Check("EdgeCoinTest");

    public static void main(String[] args) {
        promise22Ends();
        promise22Full();
        promise23Ends();
        promise23HowManyLists();
        promise24None();
        promise24FirstOfSeveral();
        promise25Ends();
        promise25WhichLists();
        promise25Most();
        promise26Ends();
        promise26Nothing();
        promise26AllOfIt();
        promise26LeftOver();
        promise26BeyondAnInt();
        promise26OfManyCabins();
        CHECK.end();
    }

    private static void due(String call, long got, long want) {
        CHECK.due(call, got, want);
    }

    /** So many cabins, with one theft each. */
    private static OnlyBatteries wood(int cabins) {
        OnlyBatteries x = Check.of(Edge.cabins(cabins));
        for (int k = 0; k < cabins; k++) {
            x.theft(k, 0, 1, 0, 1, 0);
        }
        return x;
    }

    private static OnlyBatteries losses(int... coins) {
        OnlyBatteries x = wood(coins.length);
        for (int k = 0; k < coins.length; k++) {
            x.list(k, coins[k]);
        }
        return x;
    }

    // ---- lists

    private static void promise22Ends() {
        due("promise 22: list of no theft", new OnlyBatteries().list(0, 0), -1);
        for (int thefts : new int[] {1, 2, 8}) {
            Edge.ends(CHECK, "promise 22: list(t) of " + thefts, 0, thefts - 1, -1, t -> wood(thefts).list(t, 5));
        }
        Edge.ends(CHECK, "promise 22: list(coins)", 0, 9999, -1, coins -> wood(1).list(0, coins));
    }

    private static void promise22Full() {
        OnlyBatteries x = wood(2);
        for (int i = 1; i <= 5; i++) {
            due("promise 22: list " + i, x.list(0, 100 * i), i);
        }
        due("promise 22: the 6th", x.list(0, 9999), -3);
        due("promise 22: the 6th again", x.list(0, 0), -3);
        due("promise 22: BAD is ahead of FULL, coins", x.list(0, 10000), -1);
        due("promise 22: BAD is ahead of FULL, coins -1", x.list(0, -1), -1);
        due("promise 22: BAD is ahead of FULL, theft", x.list(2, 0), -1);
        due("promise 22: five stay", x.count(4), 5);
        due("promise 22: the fifth is the last", x.grew(0), 400);
        due("promise 22: the first is the first", x.loss(0), 100);
        due("promise 22: another theft's are its own", x.list(1, 9999), 1);
        due("promise 22: six in all", x.count(4), 6);

        OnlyBatteries all = Check.of("cabin 1;");
        for (int t = 0; t < 12; t++) {
            all.theft(0, 0, 1, 0, 1, 0);
        }
        for (int i = 1; i <= 5; i++) {
            for (int t = 0; t < 12; t++) {
                due("promise 22: list " + i + " of " + t, all.list(t, t), i);
            }
            due("promise 30: lists of all", all.count(4), 12 * i);
        }
        for (int t = 0; t < 12; t++) {
            due("promise 22: the 6th of " + t, all.list(t, t), -3);
        }
        due("promise 30: lists of all stay", all.count(4), 60);
    }

    // ---- growth

    private static void promise23Ends() {
        due("promise 23: grew(0) of no theft", new OnlyBatteries().grew(0), -1000000);
        for (int thefts : new int[] {1, 2, 8}) {
            OnlyBatteries x = wood(thefts);
            Edge.ends(CHECK, "promise 23: grew(t) of " + thefts, 0, thefts - 1, -1000000, x::grew);
        }
    }

    private static void promise23HowManyLists() {
        OnlyBatteries x = wood(1);
        int[] coins = {7, 9999, 0, 7, 8};
        int[] want = {0, 9992, -7, 0, 1};
        due("promise 23: without lists", x.grew(0), 0);
        for (int i = 0; i < 5; i++) {
            x.list(0, coins[i]);
            due("promise 23: with " + (i + 1), x.grew(0), want[i]);
        }
        x.list(0, 5000);
        due("promise 23: the 6th does not count", x.grew(0), 1);
        OnlyBatteries up = losses(0, 9999, 9999);
        up.list(0, 9999);
        up.list(1, 0);
        up.list(2, 9999);
        due("promise 23: the most that it can", up.grew(0), 9999);
        due("promise 23: the least that it can", up.grew(1), -9999);
        due("promise 23: nothing", up.grew(2), 0);
    }

    private static void promise24None() {
        due("promise 24: without thefts", new OnlyBatteries().most(), -9);
        OnlyBatteries x = wood(3);
        due("promise 24: without lists", x.most(), -9);
        x.list(0, 9999);
        due("promise 24: with one", x.most(), -9);
        x.list(0, 9999);
        due("promise 24: grew by 0", x.most(), -9);
        x.list(1, 1);
        x.list(1, 0);
        due("promise 24: grew less", x.most(), -9);
        x.list(2, 0);
        x.list(2, 1);
        due("promise 24: grew by 1", x.most(), 2);
        x.list(2, 0);
        due("promise 24: and is as it was", x.most(), -9);
    }

    private static void promise24FirstOfSeveral() {
        OnlyBatteries x = Check.of("cabin 1;");
        for (int t = 0; t < 12; t++) {
            x.theft(0, 0, 1, 0, 1, t == 11 ? 7 : 0);
            x.list(t, 100);
        }
        for (int t = 11; t >= 0; t--) {
            x.list(t, 150);
            due("promise 24: all from " + t + " on alike", x.most(), t);
        }
        x.list(11, 151);
        due("promise 24: the twelfth by one more, though theirs", x.most(), 11);
        x.list(5, 151);
        due("promise 24: another as much", x.most(), 5);
        x.list(0, 149);
        due("promise 24: the first by less", x.most(), 5);
    }

    // ---- losses

    private static void promise25Ends() {
        due("promise 25: without cabins", new OnlyBatteries().loss(0), -1);
        for (int cabins = 1; cabins <= 8; cabins++) {
            OnlyBatteries x = wood(cabins);
            Edge.ends(CHECK, "promise 25: loss(k) of " + cabins, 0, cabins - 1, -1, x::loss);
        }
    }

    private static void promise25WhichLists() {
        OnlyBatteries x = Check.of("cabin 1;cabin 2;");
        due("promise 25: no theft", x.loss(0), 0);
        x.theft(0, 0, 1, 0, 1, 0);
        due("promise 25: no list", x.loss(0), 0);
        x.list(0, 0);
        due("promise 25: a list of 0", x.loss(0), 0);
        x.list(0, 9999);
        due("promise 25: the first alone counts", x.loss(0), 0);
        x.theft(0, 0, 1, 0, 1, 1);
        x.list(1, 9999);
        due("promise 25: marks one below the bar", x.loss(0), 9999);
        x.theft(0, 0, 1, 0, 1, 2);
        x.list(2, 1);
        due("promise 25: marks just the bar", x.loss(0), 9999);
        x.tune(4, 6);
        due("promise 25: marks below the bar", x.loss(0), 10000);
        x.tune(4, 4);
        due("promise 25: marks just the bar of 4", x.loss(0), 0);
        due("promise 25: another cabin", x.loss(1), 0);
    }

    private static void promise25Most() {
        OnlyBatteries x = Check.of(Edge.cabins(8));
        for (int t = 0; t < 12; t++) {
            x.theft(7, 0, 1, 0, 1, 0);
            x.list(t, 9999);
            due("promise 25: " + (t + 1) + " of the most", x.loss(7), 9999 * (t + 1));
        }
        due("promise 25: the cabin ahead", x.loss(6), 0);
    }

    // ---- amends

    private static void promise26Ends() {
        due("promise 26: without cabins", new OnlyBatteries().amends(0, 0), -1);
        for (OnlyBatteries x : new OnlyBatteries[] {wood(3), losses(5, 0, 7), losses(9999, 9999, 9999)}) {
            Edge.ends(CHECK, "promise 26: amends(purse)", 0, 99999, -1, purse -> x.amends(purse, 0));
            Edge.ends(CHECK, "promise 26: amends(k)", 0, 2, -1, k -> x.amends(7, k));
            Edge.ends(CHECK, "promise 26: amends(k), purse 0", 0, 2, -1, k -> x.amends(0, k));
            Edge.ends(CHECK, "promise 26: amends(k), the greatest purse", 0, 2, -1, k -> x.amends(99999, k));
        }
    }

    private static void dueShares(String name, OnlyBatteries x, int purse, int... shares) {
        for (int k = 0; k < shares.length; k++) {
            due("promise 26: " + name + ", amends(" + purse + ", " + k + ")", x.amends(purse, k), shares[k]);
        }
    }

    private static void promise26Nothing() {
        for (int purse : new int[] {0, 1, 99999}) {
            dueShares("no theft", Check.of("cabin 1;cabin 2;"), purse, 0, 0);
            dueShares("no list", wood(2), purse, 0, 0);
            dueShares("lists of 0", losses(0, 0), purse, 0, 0);
            OnlyBatteries theirs = losses(9, 9);
            theirs.tune(4, 0);
            dueShares("theirs alone", theirs, purse, 0, 0);
        }
        dueShares("an empty purse", losses(9, 1, 9999), 0, 0, 0, 0);
        dueShares("one that lost nothing", losses(9, 0, 9), 17, 9, 0, 8);
        dueShares("one that lost nothing, the first", losses(0, 9, 9), 1, 0, 1, 0);
    }

    private static void promise26AllOfIt() {
        OnlyBatteries x = losses(10, 20, 3);
        dueShares("one coin less than all", x, 32, 10, 19, 3);
        dueShares("just all", x, 33, 10, 20, 3);
        dueShares("one coin more", x, 34, 10, 20, 3);
        dueShares("far more", x, 99999, 10, 20, 3);
        dueShares("one cabin, less", losses(5), 4, 4);
        dueShares("one cabin, just all", losses(5), 5, 5);
        dueShares("one cabin, more", losses(5), 6, 5);
        dueShares("a loss of one", losses(1, 0), 1, 1, 0);
        OnlyBatteries all = Check.of("cabin 1;cabin 2;");
        for (int t = 0; t < 11; t++) {
            all.theft(t == 0 ? 0 : 1, 0, 1, 0, 1, 0);
            all.list(t, t == 0 ? 9 : 9999);
        }
        dueShares("all is the greatest purse", all, 99999, 9, 99990);
        dueShares("and one coin less", all, 99998, 9, 99989);
    }

    private static void promise26LeftOver() {
        OnlyBatteries even = losses(5, 5, 5);
        dueShares("one left over", even, 1, 1, 0, 0);
        dueShares("two left over", even, 2, 1, 1, 0);
        dueShares("none left over", even, 3, 1, 1, 1);
        dueShares("one less than all", even, 14, 5, 5, 4);
        dueShares("two less than all", even, 13, 5, 4, 4);
        // by 10: 7 * 6 = 42, 7 * 3 = 21, 7 * 1 = 7: it lost 2, 1, 7
        dueShares("the last lost most", losses(6, 3, 1), 7, 4, 2, 1);
        // by 10: 8 * 6 = 48, 8 * 3 = 24, 8 * 1 = 8: one for the first, then one is left over
        dueShares("the first and the last lost 8 both, two left over", losses(6, 3, 1), 8, 5, 2, 1);
        // by 12: 10 * 7 = 70, 10 * 4 = 40, 10 * 1 = 10: lost 10, 4, 10; 8 given
        dueShares("two left over, alike but the second", losses(7, 4, 1), 10, 6, 3, 1);
        // by 12: 5 * 7 = 35, 5 * 4 = 20, 5 * 1 = 5: lost 11, 8, 5; 3 given
        dueShares("two left over, the third goes without", losses(7, 4, 1), 5, 3, 2, 0);
        // by 9: 3 each by 3, nothing lost
        dueShares("nothing left over, nothing lost", losses(3, 3, 3), 6, 2, 2, 2);
        // by 4: 3 * 2 = 6, 3 * 1 = 3, 3 * 1 = 3: lost 2, 3, 3; 1 given
        dueShares("those that lost more go ahead of the first", losses(2, 1, 1), 3, 1, 1, 1);
    }

    private static void promise26BeyondAnInt() {
        OnlyBatteries x = Check.of("cabin 1;cabin 2;");
        for (int t = 0; t < 12; t++) {
            x.theft(t % 2, 0, 1, 0, 1, 0);
            x.list(t, 9999);
        }
        due("promise 26: loss of the first", x.loss(0), 59994);
        dueShares("99999 by halves", x, 99999, 50000, 49999);
        dueShares("99998 by halves", x, 99998, 49999, 49999);
        dueShares("65536 by halves", x, 65536, 32768, 32768);
        dueShares("35797 by halves, just beyond an int", x, 35797, 17899, 17898);
        OnlyBatteries y = Check.of("cabin 1;cabin 2;");
        for (int t = 0; t < 12; t++) {
            y.theft(t == 11 ? 0 : 1, 0, 1, 0, 1, 0);
            y.list(t, 9999);
        }
        // 99999 * 109989 by 119988 = 91665.75, 99999 * 9999 by 119988 = 8333.25
        dueShares("eleven parts and one", y, 99999, 8333, 91666);
        OnlyBatteries z = losses(9999, 9999, 9999, 9999, 9999, 9999, 9999, 9999);
        dueShares("eight parts", z, 79991, 9999, 9999, 9999, 9999, 9999, 9999, 9999, 9998);
        dueShares("eight parts, all", z, 79992, 9999, 9999, 9999, 9999, 9999, 9999, 9999, 9999);
        dueShares("eight parts, more than all", z, 99999, 9999, 9999, 9999, 9999, 9999, 9999, 9999, 9999);
    }

    private static void promise26OfManyCabins() {
        OnlyBatteries x = losses(1, 1, 1, 1, 1, 1, 1, 1);
        for (int purse = 0; purse <= 9; purse++) {
            for (int k = 0; k < 8; k++) {
                due("promise 26: eight of 1, amends(" + purse + ", " + k + ")", x.amends(purse, k), k < purse ? 1 : 0);
            }
        }
        OnlyBatteries y = losses(0, 0, 0, 0, 0, 0, 0, 3);
        for (int purse = 0; purse <= 4; purse++) {
            due("promise 26: the eighth alone by " + purse, y.amends(purse, 7), Math.min(purse, 3));
            due("promise 26: not the seventh by " + purse, y.amends(purse, 6), 0);
        }
    }
}
