/** Long runs of calls, drawn by a fixed row of numbers, on the class and on the model: all answers must be alike. */
public final class ModelTest {
    private static final Check CHECK = new Check("ModelTest");
    private static final int RUNS = 300, CALLS = 360;
    private static final String[] WORDS = {"path", "swamp", "lake", "cabin", "home", "moon", "snow"};

    private long state;
    private OnlyBatteries x;
    private Model m;
    private String past;
    private int length;

    public static void main(String[] args) {
        for (int run = 1; run <= RUNS; run++) {
            new ModelTest().run(run);
        }
        CHECK.end();
    }

    /** 0 .. n-1 */
    private int draw(int n) {
        state = state * 6364136223846793005L + 1442695040888963407L;
        return (int) ((state >>> 33) % n);
    }

    /** Mostly least .. most, at times just outside, or far. */
    private int near(int least, int most) {
        int kind = draw(60);
        if (kind == 0) {
            return least - 1;
        }
        if (kind == 1) {
            return most + 1;
        }
        if (kind == 2) {
            return new int[] {Integer.MIN_VALUE, Integer.MAX_VALUE, -9, 1000, -1}[draw(5)];
        }
        return kind == 3 ? least : kind == 4 ? most : least + draw(most - least + 1);
    }

    /** Each is a call: an object is good for 512. */
    private void due(String call, long got, long want) {
        length++;
        CHECK.due(past + ", then " + call, got, want);
    }

    private void run(int run) {
        state = run * 7919L;
        x = new OnlyBatteries();
        m = new Model();
        past = "run " + run;
        readYear(false);
        while (length < CALLS) {
            int kind = draw(100);
            if (kind == 0) {
                readYear(draw(2) == 0);
            } else if (kind < 20) {
                change();
            } else if (kind < 40) {
                askSmall();
            } else if (kind < 60) {
                askWalks();
            } else if (kind < 80) {
                askTakers();
            } else {
                askCoins();
            }
        }
    }

    private void readYear(boolean faulty) {
        StringBuilder text = new StringBuilder();
        int items = draw(40);
        for (int i = 0; i < items && text.length() < 360; i++) {
            addItem(text);
        }
        if (faulty && text.length() > 0) {
            String signs = " ;0123456789azpmhlscAZ{`:/\u00ff\t";
            for (int i = draw(3); i >= 0; i--) {
                int place = draw(text.length());
                char sign = signs.charAt(draw(signs.length()));
                switch (draw(3)) {
                    case 0: text.setCharAt(place, sign); break;
                    case 1: text.insert(place, sign); break;
                    default: text.deleteCharAt(place);
                }
                if (text.length() == 0) {
                    break;
                }
            }
        }
        type(text.toString());
        past = past + ", year '" + text + "'";
        int want = m.year();
        due("year", x.year(), want);
        if (want < 0) {
            due("count 3", x.count(3), m.count(3));
            due("clear", x.clear(), m.clear());
        }
        for (int cell = 0; cell < 48; cell++) {
            due("ground " + cell, x.ground(cell), m.ground(cell));
        }
    }

    private void addItem(StringBuilder text) {
        String gap = draw(4) == 0 ? "  ".substring(draw(2)) : "";
        int word = draw(9);
        word = word > 6 ? word - 5 : word;
        text.append(gap).append(WORDS[word]).append(gap.isEmpty() && draw(3) > 0 ? " " : gap);
        if (word < 4) {
            text.append(draw(100) == 0 ? 48 + draw(60) : draw(48));
        } else {
            int d = draw(60);
            int e = draw(200) == 0 ? draw(70) : Math.min(59, d + draw(word == 4 ? 20 : 4));
            if (word == 4) {
                text.append(draw(draw(100) == 0 ? 9 : Math.max(1, cabinsIn(text)))).append(' ');
            }
            text.append(d).append(' ').append(e);
        }
        text.append(gap).append(';');
    }

    private static int cabinsIn(StringBuilder text) {
        int cabins = 0;
        for (int i = text.indexOf("cabin"); i >= 0; i = text.indexOf("cabin", i + 1)) {
            cabins++;
        }
        return cabins;
    }

    private void type(String text) {
        for (int i = 0; i < text.length(); ) {
            int n = Math.min(text.length() - i, 4 + draw(5));
            long v = draw(2) == 0 ? -1 : 0;
            for (int j = 0; j < n; j++) {
                v = v << 8 | text.charAt(i + j) & 255;
            }
            due("type", x.type(v, n), m.type(v, n));
            i += n;
        }
    }

    private void change() {
        switch (draw(24)) {
            case 0: {
                int what = near(0, 4);
                int[] least = {1, 0, 1, 1, 0};
                int[] most = {99, 20, 9, 60, 30};
                int v = what >= 0 && what < 5 ? near(least[what], most[what]) : 1;
                past += ", tune " + what + " " + v;
                due("tune", x.tune(what, v), m.tune(what, v));
                break;
            }
            case 1: case 20: case 21: {
                int image = near(0, 1);
                past += ", keep " + image;
                due("keep", x.keep(image), m.keep(image));
                break;
            }
            case 2: case 22: case 23: {
                int image = near(0, 1);
                past += ", back " + image;
                due("back", x.back(image), m.back(image));
                break;
            }
            case 3: {
                int n = near(1, 8);
                due("type", x.type(state, n), m.type(state, n));
                due("clear", x.clear(), m.clear());
                break;
            }
            case 4: case 5: case 6: case 7: case 8: case 9: {
                int t = near(0, Math.max(0, m.count(1) - 1));
                int coins = near(0, draw(3) == 0 ? 9999 : 20);
                past += ", list " + t + " " + coins;
                due("list", x.list(t, coins), m.list(t, coins));
                break;
            }
            default:
                steal();
        }
    }

    private void steal() {
        int cabin = near(0, Math.max(0, m.count(0) - 1));
        int last = near(0, draw(3) == 0 ? 58 : 12);
        int missed = last >= 0 && last < 59 ? near(last + 1, Math.min(59, last + 1 + draw(9))) : 59;
        int goods = near(0, 63);
        int load = near(1, 30);
        int left = near(0, draw(2) == 0 ? 0 : 7);
        past += ", theft " + cabin + " " + last + " " + missed + " " + goods + " " + load + " " + left;
        due("theft", x.theft(cabin, last, missed, goods, load, left), m.theft(cabin, last, missed, goods, load, left));
    }

    private void askSmall() {
        int t = near(0, 11);
        int k = near(0, 7);
        int what = near(0, 7);
        int night = near(0, 59);
        due("cabin " + k, x.cabin(k), m.cabin(k));
        due("free " + k + " " + night, x.free(k, night), m.free(k, night));
        due("about " + t + " " + what, x.about(t, what), m.about(t, what));
        due("could " + t + " " + what, x.could(t, what % 4), m.could(t, what % 4));
        due("count " + what, x.count(what), m.count(what));
        due("weigh " + what + " " + t, x.weigh(what, t), m.weigh(what, t));
        due("trace", x.trace(), m.trace());
    }

    private void askWalks() {
        int from = near(0, 47);
        int to = near(0, 47);
        int k = near(0, Math.max(0, m.count(0) - 1));
        int load = near(1, 30);
        int what = near(0, 3);
        due("walk " + from + " " + to, x.walk(from, to), m.walk(from, to));
        due("trip " + from + " " + k + " " + load, x.trip(from, k, load), m.trip(from, k, load));
        due("camp " + from, x.camp(from), m.camp(from));
        due("camps " + what, x.camps(what), m.camps(what));
    }

    private void askTakers() {
        int t = near(0, Math.max(0, m.count(1) - 1));
        int cell = near(0, 47);
        int d = near(0, 59);
        int e = near(Math.max(0, Math.min(d, 59)), 59);
        int f = near(0, 30);
        int k = near(-1, 5);
        due("takers", x.takers(), m.takers());
        due("alone " + t, x.alone(t), m.alone(t));
        String stores = cell + " " + d + " " + e + " " + f + " ";
        due("stores " + stores + "-1", x.stores(cell, d, e, f, -1), m.stores(cell, d, e, f, -1));
        due("stores " + stores + k, x.stores(cell, d, e, f, k), m.stores(cell, d, e, f, k));
        due("starves " + d + " " + e + " " + f, x.starves(d, e, f), m.starves(d, e, f));
    }

    private void askCoins() {
        int set = near(0, 255);
        int d = near(0, 59);
        int e = near(Math.max(0, Math.min(d, 59)), 59);
        int men = near(1, 3);
        int l = near(1, draw(2) == 0 ? 4 : 60);
        int what = near(0, 2);
        int t = near(0, 11);
        int k = near(0, Math.max(0, m.count(0) - 1));
        int purse = near(0, draw(2) == 0 ? 99999 : 60);
        due("watch " + set + " " + d + " " + e, x.watch(set, d, e), m.watch(set, d, e));
        due("place " + men + " " + l + " " + what, x.place(men, l, what), m.place(men, l, what));
        due("grew " + t, x.grew(t), m.grew(t));
        due("most", x.most(), m.most());
        due("loss " + k, x.loss(k), m.loss(k));
        due("amends " + purse + " " + k, x.amends(purse, k), m.amends(purse, k));
    }
}
