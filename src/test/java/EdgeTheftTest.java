/** Promises 9 to 11, 16 and 17 at their edges: thefts, marks, nights in which each could be, takers, one man. */
public final class EdgeTheftTest {
    private static final Check CHECK = new Check("EdgeTheftTest");

    public static void main(String[] args) {
        promise9Ends();
        promise9Full();
        promise9FullAgain();
        promise10Ends();
        promise10Marks();
        promise10Bar();
        promise11Ends();
        promise11LastAndMissed();
        promise11LongestAndNone();
        promise11EachHindrance();
        promise16None();
        promise16JustEnough();
        promise16Most();
        promise16WhichThefts();
        promise17Ends();
        promise17State();
        promise17None();
        promise17Rows();
        CHECK.end();
    }

    private static void due(String call, long got, long want) {
        CHECK.due(call, got, want);
    }

    private static void add(OnlyBatteries x, int cabin, int last, int missed) {
        x.theft(cabin, last, missed, 0, 1, 0);
    }

    /** One cabin, and so many thefts that could be in their first nights each. */
    private static OnlyBatteries thefts(int many) {
        OnlyBatteries x = Check.of("cabin 1;");
        for (int t = 0; t < many; t++) {
            add(x, 0, t, t + 1);
        }
        return x;
    }

    // ---- thefts

    private static long steal(int cabins, int cabin, int last, int missed, int goods, int load, int left) {
        return Check.of(Edge.cabins(cabins)).theft(cabin, last, missed, goods, load, left);
    }

    private static void promise9Ends() {
        due("promise 9: without cabins", steal(0, 0, 0, 1, 0, 1, 0), -1);
        for (int cabins : new int[] {1, 2, 8}) {
            Edge.ends(CHECK, "promise 9: theft(cabin) of " + cabins, 0, cabins - 1, -1, v -> steal(cabins, v, 0, 1, 0, 1, 0));
        }
        Edge.ends(CHECK, "promise 9: theft(last), missed 59", 0, 58, -1, v -> steal(1, 0, v, 59, 0, 1, 0));
        Edge.ends(CHECK, "promise 9: theft(last), missed 1", 0, 0, -1, v -> steal(1, 0, v, 1, 0, 1, 0));
        Edge.ends(CHECK, "promise 9: theft(last), missed 30", 0, 29, -1, v -> steal(1, 0, v, 30, 0, 1, 0));
        for (int last : new int[] {0, 1, 30, 57, 58}) {
            Edge.ends(CHECK, "promise 9: theft(missed), last " + last, last + 1, 59, -1, v -> steal(1, 0, last, v, 0, 1, 0));
        }
        for (int last : new int[] {-1, 59, 60, Integer.MIN_VALUE, Integer.MAX_VALUE}) {
            for (int missed : new int[] {Integer.MIN_VALUE, -1, 0, 1, 58, 59, 60, 61, Integer.MAX_VALUE, last, last + 1}) {
                due("promise 9: theft(" + last + " to " + missed + ")", steal(1, 0, last, missed, 0, 1, 0), -1);
            }
        }
        Edge.ends(CHECK, "promise 9: theft(goods)", 0, 63, -1, v -> steal(1, 0, 0, 1, v, 1, 0));
        Edge.ends(CHECK, "promise 9: theft(load)", 1, 30, -1, v -> steal(1, 0, 0, 1, 0, v, 0));
        Edge.ends(CHECK, "promise 9: theft(left)", 0, 7, -1, v -> steal(1, 0, 0, 1, 0, 1, v));
    }

    private static void promise9Full() {
        OnlyBatteries x = Check.of("cabin 1;");
        for (int t = 0; t < 12; t++) {
            due("promise 9: theft " + t, x.theft(0, t, t + 1, t, t + 1, t % 8), t);
        }
        due("promise 9: the 13th", x.theft(0, 0, 59, 63, 30, 7), -3);
        due("promise 9: the 13th again", x.theft(0, 0, 59, 63, 30, 7), -3);
        due("promise 9: BAD is ahead of FULL, cabin", x.theft(1, 0, 1, 0, 1, 0), -1);
        due("promise 9: BAD is ahead of FULL, cabin -1", x.theft(-1, 0, 1, 0, 1, 0), -1);
        due("promise 9: BAD is ahead of FULL, last", x.theft(0, -1, 1, 0, 1, 0), -1);
        due("promise 9: BAD is ahead of FULL, missed", x.theft(0, 1, 1, 0, 1, 0), -1);
        due("promise 9: BAD is ahead of FULL, missed 60", x.theft(0, 1, 60, 0, 1, 0), -1);
        due("promise 9: BAD is ahead of FULL, goods", x.theft(0, 0, 1, 64, 1, 0), -1);
        due("promise 9: BAD is ahead of FULL, load", x.theft(0, 0, 1, 0, 31, 0), -1);
        due("promise 9: BAD is ahead of FULL, left", x.theft(0, 0, 1, 0, 1, 8), -1);
        due("promise 9: twelve stay", x.count(1), 12);
        for (int t = 0; t < 12; t++) {
            int[] want = {0, t, t + 1, t, t + 1, t % 8};
            for (int what = 0; what < 6; what++) {
                due("promise 9: about(" + t + ", " + what + ") stays", x.about(t, what), want[what]);
            }
        }
    }

    private static void promise9FullAgain() {
        OnlyBatteries x = thefts(11);
        x.keep(0);
        due("promise 9: the twelfth", x.theft(0, 0, 1, 0, 1, 0), 11);
        due("promise 9: the 13th", x.theft(0, 0, 1, 0, 1, 0), -3);
        x.back(0);
        due("promise 9: the twelfth behind back", x.theft(0, 0, 1, 0, 2, 0), 11);
        due("promise 9: the 13th behind back", x.theft(0, 0, 1, 0, 1, 0), -3);
        Check.type(x, "cabin 1;");
        x.year();
        due("promise 9: the first in a new year", x.theft(0, 0, 1, 0, 1, 0), 0);
    }

    private static void promise10Ends() {
        due("promise 10: about(0, 0) of none", thefts(0).about(0, 0), -1);
        for (int many : new int[] {1, 2, 11, 12}) {
            OnlyBatteries x = thefts(many);
            Edge.ends(CHECK, "promise 10: about(t, 0) of " + many, 0, many - 1, -1, t -> x.about(t, 0));
            Edge.ends(CHECK, "promise 10: about(t, 7) of " + many, 0, many - 1, -1, t -> x.about(t, 7));
            Edge.ends(CHECK, "promise 10: about(0, what)", 0, 7, -1, what -> x.about(0, what));
        }
        OnlyBatteries x = Check.of(Edge.cabins(8));
        x.theft(0, 0, 1, 0, 1, 0);
        x.theft(7, 58, 59, 63, 30, 7);
        int[][] want = {{0, 0, 1, 0, 1, 0, 0, 1}, {7, 58, 59, 63, 30, 7, 12, 0}};
        for (int t = 0; t < 2; t++) {
            for (int what = 0; what < 8; what++) {
                due("promise 10: about(" + t + ", " + what + ")", x.about(t, what), want[t][what]);
            }
        }
    }

    /** Every set of goods and what was left. */
    private static void promise10Marks() {
        for (int goods = 0; goods < 64; goods++) {
            OnlyBatteries x = Check.of("cabin 1;");
            for (int left = 0; left < 8; left++) {
                x.theft(0, 0, 1, goods, 1, left);
                int marks = (left & 1) * 4 + (left >> 1 & 1) * 5 + (left >> 2) * 6 + (goods >> 5) * 3
                        - (goods >> 1 & 1) * 4 - (goods >> 3 & 1) * 2;
                due("promise 10: marks of goods " + goods + ", left " + left, x.about(left, 6), Math.max(marks, 0));
                due("promise 10: his, of goods " + goods + ", left " + left, x.about(left, 7), marks < 5 ? 1 : 0);
            }
        }
    }

    private static void promise10Bar() {
        OnlyBatteries x = Check.of("cabin 1;");
        x.theft(0, 0, 1, 0, 1, 0);
        x.theft(0, 0, 1, 10, 1, 1);
        x.theft(0, 0, 1, 2, 1, 2);
        x.theft(0, 0, 1, 32, 1, 7);
        int[] marks = {0, 0, 1, 18};
        for (int bar : new int[] {0, 1, 2, 17, 18, 19, 30}) {
            x.tune(4, bar);
            int his = 0;
            for (int t = 0; t < 4; t++) {
                his += marks[t] < bar ? 1 : 0;
                due("promise 10: " + marks[t] + " marks, bar " + bar, x.about(t, 7), marks[t] < bar ? 1 : 0);
            }
            due("promise 30: how many are his with bar " + bar, x.count(2), his);
        }
    }

    // ---- nights

    private static void dueCould(String name, OnlyBatteries x, int t, int many, int first, int last) {
        due("promise 11: " + name + ", how many", x.could(t, 0), many);
        due("promise 11: " + name + ", the first", x.could(t, 1), first);
        due("promise 11: " + name + ", the last", x.could(t, 2), last);
    }

    private static void promise11Ends() {
        due("promise 11: could(0, 0) of none", thefts(0).could(0, 0), -1);
        for (int many : new int[] {1, 2, 11, 12}) {
            OnlyBatteries x = thefts(many);
            Edge.ends(CHECK, "promise 11: could(t, 0) of " + many, 0, many - 1, -1, t -> x.could(t, 0));
            Edge.ends(CHECK, "promise 11: could(t, 2) of " + many, 0, many - 1, -1, t -> x.could(t, 2));
            Edge.ends(CHECK, "promise 11: could(0, what)", 0, 2, -1, what -> x.could(0, what));
        }
        OnlyBatteries none = Check.of("cabin 1;moon 0 59;");
        add(none, 0, 0, 59);
        Edge.ends(CHECK, "promise 11: could(0, what) where none is", 0, 2, -1, what -> none.could(0, what));
    }

    private static void promise11LastAndMissed() {
        for (int last = 0; last < 59; last++) {
            OnlyBatteries x = Check.of("cabin 1;");
            add(x, 0, last, last + 1);
            dueCould("one night, " + last, x, 0, 1, last, last);
            add(x, 0, 0, last + 1);
            dueCould("from 0 to " + last, x, 1, last + 1, 0, last);
            add(x, 0, last, 59);
            dueCould("from " + last + " to 58", x, 2, 59 - last, last, 58);
            // a bright night on LAST, ahead of it, on MISSED, ahead of it
            if (last > 0 && last < 57) {
                OnlyBatteries y = Check.of("cabin 1;moon " + last + " " + last + ";");
                add(y, 0, last, last + 2);
                dueCould("bright on last, " + last, y, 0, 1, last + 1, last + 1);
                add(y, 0, last + 1, last + 2);
                dueCould("bright ahead of last, " + last, y, 1, 1, last + 1, last + 1);
                add(y, 0, last - 1, last);
                dueCould("bright on missed, " + last, y, 2, 1, last - 1, last - 1);
                add(y, 0, last - 1, last + 1);
                dueCould("bright ahead of missed, " + last, y, 3, 1, last - 1, last - 1);
            }
        }
    }

    private static void promise11LongestAndNone() {
        OnlyBatteries x = Check.of("cabin 1;cabin 2;home 1 0 58;");
        add(x, 0, 0, 59);
        dueCould("all nights but the last", x, 0, 59, 0, 58);
        add(x, 1, 0, 59);
        dueCould("at home up to the last but one", x, 1, 0, -9, -9);
        add(x, 1, 58, 59);
        dueCould("at home in the one night", x, 2, 0, -9, -9);
        OnlyBatteries y = Check.of("cabin 1;moon 1 57;");
        add(y, 0, 0, 59);
        dueCould("the two nights at the ends", y, 0, 2, 0, 58);
        add(y, 0, 1, 58);
        dueCould("the bright ones alone", y, 1, 0, -9, -9);
        add(y, 0, 0, 58);
        dueCould("the first alone", y, 2, 1, 0, 0);
        add(y, 0, 1, 59);
        dueCould("the last alone", y, 3, 1, 58, 58);
    }

    private static void promise11EachHindrance() {
        for (String word : new String[] {"home 0 ", "moon ", "snow "}) {
            OnlyBatteries x = Check.of("cabin 1;cabin 2;" + word + "10 12;");
            add(x, 0, 9, 14);
            dueCould(word + "within", x, 0, 2, 9, 13);
            add(x, 0, 10, 13);
            dueCould(word + "all", x, 1, 0, -9, -9);
            add(x, 0, 12, 14);
            dueCould(word + "its last day", x, 2, 1, 13, 13);
            add(x, 0, 9, 11);
            dueCould(word + "its first day", x, 3, 1, 9, 9);
            add(x, 1, 9, 14);
            boolean own = word.startsWith("home");
            dueCould(word + "another cabin", x, 4, own ? 5 : 2, 9, 13);
        }
    }

    // ---- takers

    private static void promise16None() {
        due("promise 16: no cabin", new OnlyBatteries().takers(), 0);
        due("promise 16: no theft", thefts(0).takers(), 0);
        OnlyBatteries never = Check.of("cabin 1;moon 5 5;");
        add(never, 0, 5, 6);
        due("promise 16: one that could be in none", never.takers(), 0);
        OnlyBatteries theirs = Check.of("cabin 1;");
        theirs.theft(0, 5, 6, 0, 1, 7);
        due("promise 16: theirs alone", theirs.takers(), 0);
        add(theirs, 0, 5, 6);
        due("promise 16: one of his, one of theirs", theirs.takers(), 1);
    }

    /** So many thefts in so many nights. */
    private static void promise16JustEnough() {
        for (int nights = 1; nights <= 12; nights++) {
            OnlyBatteries x = Check.of("cabin 1;");
            for (int t = 1; t <= 12; t++) {
                add(x, 0, 20, 20 + nights);
                due("promise 16: " + t + " in " + nights + " nights", x.takers(), (t + nights - 1) / nights);
            }
        }
        // the two last nights that there can be
        OnlyBatteries y = Check.of("cabin 1;");
        add(y, 0, 57, 59);
        add(y, 0, 57, 59);
        due("promise 16: two in the last two nights", y.takers(), 1);
        add(y, 0, 58, 59);
        due("promise 16: three in the last two nights", y.takers(), 2);
    }

    private static void promise16Most() {
        OnlyBatteries one = Check.of("cabin 1;");
        OnlyBatteries each = Check.of(Edge.cabins(8));
        for (int t = 0; t < 12; t++) {
            add(one, 0, 58, 59);
            add(each, t % 8, 0, 1);
            due("promise 16: " + (t + 1) + " in the last night", one.takers(), t + 1);
            due("promise 16: " + (t + 1) + " in the first night, of eight cabins", each.takers(), t + 1);
        }
        due("promise 16: twelve, each in a night of its own", thefts(12).takers(), 1);
        OnlyBatteries chain = Check.of("cabin 1;");
        for (int t = 0; t < 11; t++) {
            add(chain, 0, t, t + 2);
        }
        due("promise 16: a chain of eleven", chain.takers(), 1);
        add(chain, 0, 0, 1);
        due("promise 16: all make room for the twelfth", chain.takers(), 1);
        OnlyBatteries tight = Check.of("cabin 1;moon 11 11;");
        for (int t = 0; t < 11; t++) {
            add(tight, 0, t, t + 2);
        }
        due("promise 16: a chain up to a bright night", tight.takers(), 1);
        add(tight, 0, 0, 1);
        due("promise 16: none can make room", tight.takers(), 2);
    }

    private static void promise16WhichThefts() {
        OnlyBatteries x = Check.of("cabin 1;cabin 2;home 1 0 59;");
        add(x, 0, 5, 6);
        add(x, 1, 5, 6);
        x.theft(0, 5, 6, 0, 1, 2);
        due("promise 16: one left out, one theirs", x.takers(), 1);
        x.tune(4, 6);
        due("promise 16: theirs is his now", x.takers(), 2);
        x.tune(4, 0);
        due("promise 16: none is his", x.takers(), 0);
    }

    // ---- one man

    private static void promise17Ends() {
        due("promise 17: alone(0) of none", thefts(0).alone(0), -1);
        due("promise 17: alone(0) without cabins", new OnlyBatteries().alone(0), -1);
        for (int many : new int[] {1, 2, 11, 12}) {
            OnlyBatteries x = thefts(many);
            Edge.ends(CHECK, "promise 17: alone of " + many, 0, many - 1, -1, x::alone);
        }
    }

    private static void promise17State() {
        OnlyBatteries x = Check.of("cabin 1;");
        add(x, 0, 5, 6);
        due("promise 17: one is enough", x.alone(0), 5);
        add(x, 0, 5, 6);
        x.theft(0, 9, 10, 0, 1, 7);
        due("promise 17: two takers, the first", x.alone(0), -2);
        due("promise 17: two takers, the second", x.alone(1), -2);
        due("promise 17: STATE for theirs, too", x.alone(2), -2);
        for (int t : Edge.beyond(0, 2)) {
            due("promise 17: BAD is ahead of STATE, alone(" + t + ")", x.alone(t), -1);
        }
        x.tune(4, 0);
        due("promise 17: no taker at all is no STATE", x.alone(0), -9);
        due("promise 17: no taker at all, theirs", x.alone(2), -9);
        OnlyBatteries out = Check.of("cabin 1;cabin 2;home 1 0 59;");
        add(out, 1, 5, 6);
        due("promise 17: left out, no taker at all", out.alone(0), -9);
        add(out, 0, 5, 6);
        add(out, 0, 5, 6);
        due("promise 17: STATE for one left out, too", out.alone(0), -2);
    }

    private static void promise17None() {
        OnlyBatteries x = Check.of("cabin 1;cabin 2;home 1 0 59;");
        add(x, 0, 0, 1);
        add(x, 1, 0, 1);
        x.theft(0, 0, 1, 0, 1, 2);
        x.theft(0, 58, 59, 0, 1, 1);
        due("promise 17: the first night", x.alone(0), 0);
        due("promise 17: left out", x.alone(1), -9);
        due("promise 17: marks just the bar, not his", x.alone(2), -9);
        due("promise 17: marks one below the bar, the last night", x.alone(3), 58);
    }

    private static void dueRow(String name, OnlyBatteries x, int... nights) {
        for (int t = 0; t < nights.length; t++) {
            due("promise 17: " + name + ", alone(" + t + ")", x.alone(t), nights[t]);
        }
    }

    private static void promise17Rows() {
        dueRow("twelve, each its own", thefts(12), 0, 1, 2, 3, 4, 5, 6, 7, 8, 9, 10, 11);
        OnlyBatteries same = Check.of("cabin 1;");
        OnlyBatteries tight = Check.of("cabin 1;");
        for (int t = 0; t < 12; t++) {
            add(same, 0, 0, 12);
            add(tight, 0, 0, 12 - t);
        }
        dueRow("twelve in twelve nights", same, 0, 1, 2, 3, 4, 5, 6, 7, 8, 9, 10, 11);
        dueRow("each makes room for the next", tight, 11, 10, 9, 8, 7, 6, 5, 4, 3, 2, 1, 0);
        OnlyBatteries late = Check.of("cabin 1;");
        add(late, 0, 56, 59);
        add(late, 0, 57, 59);
        add(late, 0, 56, 58);
        dueRow("the last three nights", late, 56, 58, 57);
        OnlyBatteries first = Check.of("cabin 1;");
        add(first, 0, 3, 6);
        add(first, 0, 3, 6);
        add(first, 0, 3, 5);
        dueRow("the first as soon as may be, though others wait", first, 3, 5, 4);
        OnlyBatteries second = Check.of("cabin 1;moon 4 4;");
        add(second, 0, 3, 7);
        add(second, 0, 2, 4);
        add(second, 0, 2, 3);
        dueRow("then the second", second, 5, 3, 2);
    }
}
