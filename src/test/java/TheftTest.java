/** Promises 9 to 11: thefts, what is known about them, when they could be. */
public final class TheftTest {
    private static final Check CHECK = new Check("TheftTest");

    public static void main(String[] args) {
        wrongNumbers();
        edges();
        full();
        about();
        marks();
        whose();
        could();
        CHECK.end();
    }

    private static void due(String call, long got, long want) {
        CHECK.due(call, got, want);
    }

    private static void wrongNumbers() {
        OnlyBatteries x = Check.of("cabin 1;cabin 2;");
        due("cabin 2", x.theft(2, 0, 1, 0, 1, 0), -1);
        due("cabin -1", x.theft(-1, 0, 1, 0, 1, 0), -1);
        due("last -1", x.theft(0, -1, 1, 0, 1, 0), -1);
        due("last 59", x.theft(0, 59, 59, 0, 1, 0), -1);
        due("last 59, missed 60", x.theft(0, 59, 60, 0, 1, 0), -1);
        due("last most", x.theft(0, Integer.MAX_VALUE, Integer.MIN_VALUE, 0, 1, 0), -1);
        due("missed as last", x.theft(0, 5, 5, 0, 1, 0), -1);
        due("missed ahead", x.theft(0, 5, 4, 0, 1, 0), -1);
        due("missed 60", x.theft(0, 5, 60, 0, 1, 0), -1);
        due("goods -1", x.theft(0, 0, 1, -1, 1, 0), -1);
        due("goods 64", x.theft(0, 0, 1, 64, 1, 0), -1);
        due("load 0", x.theft(0, 0, 1, 0, 0, 0), -1);
        due("load 31", x.theft(0, 0, 1, 0, 31, 0), -1);
        due("left -1", x.theft(0, 0, 1, 0, 1, -1), -1);
        due("left 8", x.theft(0, 0, 1, 0, 1, 8), -1);
        due("none came", x.count(1), 0);
        due("without cabins", new OnlyBatteries().theft(0, 0, 1, 0, 1, 0), -1);
    }

    private static void edges() {
        OnlyBatteries x = Check.of("cabin 1;cabin 2;");
        due("least", x.theft(0, 0, 1, 0, 1, 0), 0);
        due("most", x.theft(1, 58, 59, 63, 30, 7), 1);
        due("long", x.theft(1, 0, 59, 63, 30, 7), 2);
        due("count", x.count(1), 3);
    }

    private static void full() {
        OnlyBatteries x = Check.of("cabin 1;");
        for (int t = 0; t < 12; t++) {
            due("theft " + t, x.theft(0, t, t + 1, 0, t + 1, 0), t);
        }
        due("13th", x.theft(0, 0, 1, 0, 1, 0), -3);
        due("BAD is ahead of FULL", x.theft(1, 0, 1, 0, 1, 0), -1);
        due("count", x.count(1), 12);
        due("the last is as it was", x.about(11, 4), 12);
    }

    private static void about() {
        OnlyBatteries x = Check.of("cabin 1;cabin 2;");
        x.theft(0, 0, 1, 0, 1, 0);
        x.theft(1, 8, 20, 37, 19, 3);
        int[] want = {1, 8, 20, 37, 19, 3, 12, 0};
        for (int what = 0; what < 8; what++) {
            due("about 1 " + what, x.about(1, what), want[what]);
        }
        int[] plain = {0, 0, 1, 0, 1, 0, 0, 1};
        for (int what = 0; what < 8; what++) {
            due("about 0 " + what, x.about(0, what), plain[what]);
        }
        due("what -1", x.about(0, -1), -1);
        due("what 8", x.about(0, 8), -1);
        due("theft 2", x.about(2, 0), -1);
        due("theft -1", x.about(-1, 0), -1);
        due("theft 12", x.about(12, 0), -1);
    }

    private static int marksOf(int goods, int left) {
        OnlyBatteries x = Check.of("cabin 1;");
        x.theft(0, 0, 1, goods, 1, left);
        return x.about(0, 6);
    }

    private static void marks() {
        due("none", marksOf(0, 0), 0);
        due("door", marksOf(0, 1), 4);
        due("mess", marksOf(0, 2), 5);
        due("bottles", marksOf(0, 4), 6);
        due("money", marksOf(32, 0), 3);
        due("all", marksOf(32, 7), 18);
        due("food, gas, tools count for none", marksOf(1 + 4 + 16, 4), 6);
        due("less batteries", marksOf(2, 7), 11);
        due("less a book", marksOf(8, 7), 13);
        due("less both", marksOf(10, 7), 9);
        due("everything", marksOf(63, 7), 12);
        due("not below 0", marksOf(10, 2), 0);
        due("0 at least", marksOf(2, 0), 0);
    }

    private static void whose() {
        OnlyBatteries x = Check.of("cabin 1;");
        x.theft(0, 0, 1, 0, 1, 2);
        x.theft(0, 0, 1, 0, 1, 1);
        x.theft(0, 0, 1, 0, 1, 0);
        due("5 marks", x.about(0, 7), 0);
        due("4 marks", x.about(1, 7), 1);
        due("0 marks", x.about(2, 7), 1);
        due("his", x.count(2), 2);
        x.tune(4, 4);
        due("4 marks at bar 4", x.about(1, 7), 0);
        due("his at bar 4", x.count(2), 1);
        x.tune(4, 0);
        due("all are theirs at bar 0", x.about(2, 7), 0);
        due("his at bar 0", x.count(2), 0);
        x.tune(4, 6);
        due("all are his at bar 6", x.count(2), 3);
        due("thefts", x.count(1), 3);
    }

    private static void could() {
        OnlyBatteries x = Check.of("cabin 1;cabin 2;home 0 10 12;moon 14 14;snow 16 17;home 1 0 59;");
        x.theft(0, 9, 20, 0, 1, 0);
        x.theft(0, 10, 13, 0, 1, 0);
        x.theft(0, 13, 14, 0, 1, 0);
        x.theft(1, 0, 59, 0, 1, 0);
        x.theft(0, 0, 59, 0, 1, 7);
        x.theft(0, 58, 59, 0, 1, 0);
        int[][] want = {{5, 9, 19}, {0, -9, -9}, {1, 13, 13}, {0, -9, -9}, {53, 0, 58}, {1, 58, 58}};
        for (int t = 0; t < want.length; t++) {
            for (int what = 0; what < 3; what++) {
                due("could " + t + " " + what, x.could(t, what), want[t][what]);
            }
        }
        due("what -1", x.could(0, -1), -1);
        due("what 3", x.could(0, 3), -1);
        due("theft 6", x.could(6, 0), -1);
        due("theft -1", x.could(-1, 0), -1);
        due("BAD is due where none could be", x.could(3, 3), -1);
    }
}
