import java.util.ArrayList;
import java.util.List;

/** Promises 2 to 4 at their edges: what the text takes, and each token that can't stand where it stands. */
public final class EdgeTextTest {
    private static final Check CHECK = new Check("EdgeTextTest");
    private static final String[] WORDS = {"path", "swamp", "lake", "cabin", "home", "moon", "snow"};
    private static final String[][] ITEMS = {{"path", "3", ";"}, {"swamp", "3", ";"}, {"lake", "3", ";"},
        {"cabin", "3", ";"}, {"home", "0", "3", "9", ";"}, {"moon", "3", "9", ";"}, {"snow", "3", "9", ";"}};
    private static final String[] WRONG_SIGNS = {"?", "A", "P", "Z", "@", "[", "`", "{", "/", ":", "-", "+", ".", ",", "!",
        "<", "\"", "_", "\t", "\n", "\r", "\0", "\u001f", "\u007f", "\u0080", "\u00a0", "\u00bb", "\u00e9", "\u00ff"};
    private static final String[] WRONG_NUMBERS = {"100", "101", "110", "999", "1000", "00", "01", "03", "07", "010",
        "000", "099", "0000000003", "2147483647", "2147483648", "2147483651", "4294967295", "4294967299",
        "9223372036854775808", "18446744073709551619", "100000000000000000000000000000000000003"};
    private static final String[] WRONG_WORDS = {"a", "z", "river", "pat", "paths", "pathpath", "swam", "swamps", "lak",
        "lakes", "cabi", "cabins", "hom", "homes", "moo", "moons", "sno", "snows"};

    public static void main(String[] args) {
        promise2HowManyBytes();
        promise2WhichBytes();
        promise2Full();
        promise3Clear();
        promise4Empty();
        promise4MostItems();
        promise4FourHundredBytes();
        promise4WrongTokens();
        promise4EndsTooEarly();
        promise4BlanksNeeded();
        promise4BlanksAnywhere();
        promise4SignsAtOnce();
        promise4LettersOfWords();
        promise4Cells();
        promise4Days();
        promise4Homes();
        promise4NinthCabin();
        promise4CabinsAndLakes();
        promise4FirstFaultCounts();
        promise4FaultKeepsTheText();
        promise4WhatIsNotTold();
        CHECK.end();
    }

    private static void due(String call, long got, long want) {
        CHECK.due(call, got, want);
    }

    private static void fault(String name, String text, int place) {
        due("promise 4: " + name + ", year() of '" + text + "'", Check.read(text), -10 - place);
    }

    private static void items(String name, String text, int many) {
        due("promise 4: " + name + ", year() of '" + text + "'", Check.read(text), many);
    }

    /** One item at its number's value: taken, if it may stand, or a fault at the number. */
    private static void number(String ahead, int number, String behind, int items, boolean may) {
        String text = ahead + number + behind;
        if (may) {
            items("a number that may stand", text, items);
        } else {
            fault("a number that may not stand", text, ahead.length());
        }
    }

    private static String blanks(int many) {
        return " ".repeat(many);
    }

    // ---- typing

    private static void promise2HowManyBytes() {
        Edge.ends(CHECK, "promise 2: type(0, n)", 1, 8, -1, n -> new OnlyBatteries().type(0, n));
        long[] ends = {Long.MIN_VALUE, Long.MIN_VALUE + 1, Integer.MIN_VALUE, -256, -1, 0, 1, 255, 256, Integer.MAX_VALUE,
            1L << 31, 1L << 32, Long.MAX_VALUE};
        for (long v : ends) {
            for (int n = 1; n <= 8; n++) {
                OnlyBatteries x = new OnlyBatteries();
                due("promise 2: type(" + v + ", " + n + ")", x.type(v, n), n);
                due("promise 2: type(" + v + ", " + n + ") again", x.type(v, n), 2 * n);
                due("promise 2: count(3) behind it", x.count(3), 2 * n);
            }
            due("promise 2: type(" + v + ", 0)", new OnlyBatteries().type(v, 0), -1);
            due("promise 2: type(" + v + ", 9)", new OnlyBatteries().type(v, 9), -1);
        }
    }

    /** A wrong byte at one place among blanks: the fault tells where it came. */
    private static void promise2WhichBytes() {
        long blanks = 0x2020202020202020L;
        int[] wrong = {0, 1, 0x1f, 0x21, 0x7f, 0x80, 0xff};
        for (int n = 1; n <= 8; n++) {
            for (int place = 0; place < n; place++) {
                for (int sign : wrong) {
                    int shift = 8 * (n - 1 - place);
                    long v = blanks & ~(255L << shift) | (long) sign << shift;
                    OnlyBatteries x = new OnlyBatteries();
                    x.type(v, n);
                    due("promise 2: byte " + place + " of " + n + " is " + sign, x.year(), -10 - place);
                }
            }
            // all above the lowest n bytes is left out
            OnlyBatteries x = new OnlyBatteries();
            x.type(n == 8 ? blanks : -1L << 8 * n | blanks >>> 8 * (8 - n), n);
            due("promise 2: the lowest " + n + " bytes are blanks", x.year(), 0);
        }
    }

    private static void promise2Full() {
        for (int n = 1; n <= 8; n++) {
            OnlyBatteries x = new OnlyBatteries();
            Check.type(x, blanks(400 - n));
            due("promise 2: up to 400 with " + n, x.type(0x2020202020202020L, n), 400);
            for (int more = 1; more <= 8; more++) {
                due("promise 2: 400 and " + more, x.type(0, more), -3);
            }
            due("promise 2: 400 stay", x.count(3), 400);
            due("promise 2: and are as they were", x.year(), 0);

            OnlyBatteries y = new OnlyBatteries();
            Check.type(y, blanks(401 - n));
            due("promise 2: 401 with " + n, y.type(0, n), -3);
            due("promise 2: none of them came", y.count(3), 401 - n);
            due("promise 2: BAD is ahead of FULL, n 0", y.type(0, 0), -1);
            due("promise 2: BAD is ahead of FULL, n 9", y.type(0, 9), -1);
            due("promise 2: BAD is ahead of FULL, n greatest", y.type(0, Integer.MAX_VALUE), -1);
            due("promise 2: BAD is ahead of FULL, n least", y.type(0, Integer.MIN_VALUE), -1);
            if (n > 1) {
                due("promise 2: fewer go in still", y.type(0x2020202020202020L, n - 1), 400);
            }
        }
    }

    private static void promise3Clear() {
        for (int many : new int[] {0, 1, 7, 8, 399, 400}) {
            OnlyBatteries x = new OnlyBatteries();
            Check.type(x, blanks(many));
            due("promise 3: clear() of " + many, x.clear(), many);
            due("promise 3: empty then", x.count(3), 0);
            due("promise 3: clear() again", x.clear(), 0);
            due("promise 3: year() of none", x.year(), 0);
            Check.type(x, "lake 9;" + blanks(393));
            due("promise 3: 400 bytes go in again", x.count(3), 400);
            due("promise 3: nothing is left of what was", x.year(), 1);
            due("promise 3: ground(9)", x.ground(9), 3);
        }
        OnlyBatteries x = Check.of("lake 3;cabin 9;");
        x.theft(0, 0, 1, 0, 1, 0);
        Check.type(x, "path 3;");
        due("promise 3: clear() is of the text alone", x.clear(), 7);
        due("promise 3: ground(3) stays", x.ground(3), 3);
        due("promise 3: cabin(0) stays", x.cabin(0), 9);
        due("promise 3: thefts stay", x.count(1), 1);
    }

    // ---- the text's length

    private static void promise4Empty() {
        items("no byte", "", 0);
        for (int many : new int[] {1, 2, 8, 399, 400}) {
            items(many + " blanks", blanks(many), 0);
        }
        fault("an item that is ; alone", ";", 0);
    }

    private static void promise4MostItems() {
        StringBuilder text = new StringBuilder();
        for (int i = 0; i < 66; i++) {
            text.append("lake").append(i % 10).append(';');
        }
        items("66 of the shortest items", text.toString(), 66);
        items("66 items and 4 blanks", text + blanks(4), 66);
        fault("66 items and a word", text + "path", 400);
        fault("66 items and ;", text + ";", 396);
        items("all cells", Edge.everywhere("swamp"), 48);
    }

    private static void promise4FourHundredBytes() {
        for (String[] item : ITEMS) {
            String own = String.join(" ", item);
            String ahead = item[0].equals("home") ? "cabin 9;" : "";
            String gap = blanks(400 - ahead.length() - own.length());
            items("ends at the 400th byte", ahead + gap + own, ahead.isEmpty() ? 1 : 2);
            String early = ahead + gap + own.substring(0, own.length() - 1);
            fault("lacks ; with 399 bytes", early, 399);
            fault("lacks ; with 400 bytes, a blank the last", early + " ", 400);
            fault("lacks ; with 400 bytes, a wrong byte the last", early + "?", 399);
        }
        fault("a word up to the 400th byte", blanks(396) + "path", 400);
        fault("a number up to the 400th byte", blanks(393) + "path 47", 400);
        fault("a wrong number up to the 400th byte", blanks(393) + "path 48", 398);
        fault("a long number up to the 400th byte", "path " + "9".repeat(395), 5);
        fault("a long word up to the 400th byte", "p".repeat(400), 0);
        fault("a wrong word as the 400th byte", blanks(399) + "p", 399);
    }

    // ---- wrong tokens

    private static void promise4WrongTokens() {
        for (String[] item : ITEMS) {
            for (int i = 0; i < item.length; i++) {
                wrongTokensAt(item, i, " ");
                wrongTokensAt(item, i, "   ");
            }
        }
    }

    private static void wrongTokensAt(String[] item, int i, String gap) {
        StringBuilder ahead = new StringBuilder("cabin 40;" + gap);
        for (int j = 0; j < i; j++) {
            ahead.append(item[j]).append(gap);
        }
        StringBuilder behind = new StringBuilder();
        for (int j = i + 1; j < item.length; j++) {
            behind.append(gap).append(item[j]);
        }
        items("the item as it should be", ahead + item[i] + behind + gap + "path 1;", 3);
        for (String wrong : wrongFor(item, i)) {
            String name = "'" + wrong + "' for token " + i + " of " + item[0];
            fault(name, ahead + wrong + behind + gap + "path 1;", ahead.length());
            fault(name + ", the last token", ahead + wrong, ahead.length());
            fault(name + ", then wrong bytes", ahead + wrong + gap + "? 100 river", ahead.length());
        }
    }

    private static List<String> wrongFor(String[] item, int i) {
        List<String> row = new ArrayList<>();
        row.addAll(List.of(WRONG_SIGNS));
        row.addAll(List.of(WRONG_NUMBERS));
        row.addAll(List.of(WRONG_WORDS));
        boolean word = i == 0;
        boolean end = i == item.length - 1;
        if (!word) {
            row.addAll(List.of(WORDS));
        }
        if (word || end) {
            row.addAll(List.of("0", "1", "3", "9", "47", "59", "99"));
        }
        if (!end) {
            row.add(";");
        }
        if (!word && !end) {
            boolean first = i == 1;
            boolean cell = item.length == 3;
            row.addAll(cell ? List.of("48", "60", "99") : first && item[0].equals("home") ? List.of("1", "8", "99")
                    : item[i].equals("9") ? List.of("0", "2", "60", "99") : List.of("60", "99"));
        }
        return row;
    }

    private static void promise4EndsTooEarly() {
        for (String[] item : ITEMS) {
            StringBuilder text = new StringBuilder("cabin 40;");
            for (int i = 0; i < item.length - 1; i++) {
                text.append(i == 0 ? "" : " ").append(item[i]);
                for (int more : new int[] {0, 1, 5, 400 - text.length()}) {
                    fault("ends behind token " + i, text + blanks(more), text.length() + more);
                }
            }
        }
    }

    // ---- blanks

    private static void promise4BlanksNeeded() {
        items("none between a word and a number, a number and ;, ; and a word", "cabin9;home0 1 2;moon3 4;snow5 6;path7;", 5);
        fault("two rows of letters without one are one word", "pathpath 3;", 0);
        fault("two words with one between", "path path 3;", 5);
        fault("two numbers without one are one number", "moon 12;", 7);
        items("two numbers with one between", "moon 1 2;", 1);
        fault("three numbers, one blank", "cabin 9;home 0 12;", 17);
        fault("a number, then letters at once", "path 3moon 1 2;", 6);
        fault("a number of 3 digits for two", "moon 123;", 5);
        fault("a blank within a word", "pa th 3;", 0);
        fault("a blank within a number", "path 4 7;", 7);
        fault("a blank between 0 and 3", "path 0 3;", 7);
    }

    private static void promise4BlanksAnywhere() {
        for (int many : new int[] {1, 2, 7, 90}) {
            String gap = blanks(many);
            items(many + " blanks ahead of, between, behind", gap + "moon" + gap + "0" + gap + "59" + gap + ";", 1);
            items(many + " blanks behind the last ;", "moon 0 59;" + gap, 1);
        }
        // told with blanks or without, it is the same
        OnlyBatteries x = Check.of("  cabin   9  ;  home  0   1     2 ;lake3 ;");
        due("promise 4: cabin(0)", x.cabin(0), 9);
        due("promise 4: free(0, 2)", x.free(0, 2), 0);
        due("promise 4: ground(3)", x.ground(3), 3);
        for (int sign = 0; sign < 256; sign++) {
            boolean takes = sign == ' ';
            due("promise 4: byte " + sign + " as a blank", Check.read((char) sign + "lake 3;"),
                    takes ? 1 : -10);
        }
    }

    /** Each byte at once behind a word, a number, an item, and ahead of one. */
    private static void promise4SignsAtOnce() {
        for (int sign = 0; sign < 256; sign++) {
            char c = (char) sign;
            boolean letter = c >= 'a' && c <= 'z';
            boolean digit = c >= '0' && c <= '9';
            String behindWord = "path" + c + "3;";
            if (c == ' ' || c >= '1' && c <= '4') {
                items("byte " + sign + " behind a word", behindWord, 1);
            } else {
                fault("byte " + sign + " behind a word", behindWord, letter ? 0 : 4);
            }
            String behindNumber = "path 3" + c + ";";
            if (c == ' ' || digit) {
                items("byte " + sign + " behind a number", behindNumber, 1);
            } else {
                fault("byte " + sign + " behind a number", behindNumber, c == ';' ? 7 : 6);
            }
            String behindItem = "path 3;" + c;
            if (c == ' ') {
                items("byte " + sign + " behind an item", behindItem, 1);
            } else {
                fault("byte " + sign + " behind an item", behindItem, 7);
            }
            fault("byte " + sign + " ahead of letters and ;", c + "a;", c == ' ' ? 1 : 0);
        }
        fault("a letter at once behind each letter of a word", "pathz 3;", 0);
        fault("a letter at once ahead of a word", "zpath 3;", 0);
    }

    /** Each word with one letter changed, left out, doubled: none of these is a word. */
    private static void promise4LettersOfWords() {
        for (String[] item : ITEMS) {
            String word = item[0];
            String ahead = "cabin 40;";
            String behind = " " + String.join(" ", item).substring(word.length() + 1);
            items("the word as it should be", ahead + word + behind, 2);
            for (int i = 0; i < word.length(); i++) {
                String first = ahead + word.substring(0, i);
                String rest = word.substring(i + 1) + behind;
                for (char c = 'a'; c <= 'z'; c++) {
                    if (c != word.charAt(i)) {
                        fault("letter " + i + " is another", first + c + rest, ahead.length());
                    }
                }
                fault("letter " + i + " is left out", first + rest, ahead.length());
                fault("letter " + i + " is doubled", first + word.charAt(i) + word.charAt(i) + rest, ahead.length());
                // the letters ahead of a capital are a word that is none of these
                fault("letter " + i + " is a capital", first + (char) (word.charAt(i) - 32) + rest, ahead.length());
            }
        }
    }

    // ---- numbers

    private static void promise4Cells() {
        for (String word : new String[] {"path", "swamp", "lake", "cabin"}) {
            for (int cell = 0; cell < 100; cell++) {
                number(word + " ", cell, ";", 1, cell <= 47);
                number(word, cell, " ;", 1, cell <= 47);
            }
        }
        OnlyBatteries x = Check.of("path 0;lake 47;");
        due("promise 4: the first cell", x.ground(0), 1);
        due("promise 4: the last cell", x.ground(47), 3);
    }

    private static void promise4Days() {
        for (String ahead : new String[] {"moon ", "snow ", "cabin 9;home 0 "}) {
            int items = ahead.length() > 5 ? 2 : 1;
            for (int d = 0; d < 100; d++) {
                number(ahead, d, " 59;", items, d <= 59);
                number(ahead, d, " " + d + ";", items, d <= 59);
            }
            for (int d : new int[] {0, 1, 9, 10, 30, 58, 59}) {
                for (int e = 0; e < 100; e++) {
                    number(ahead + d + " ", e, ";", items, e >= d && e <= 59);
                }
            }
        }
    }

    private static void promise4Homes() {
        for (int cabins = 0; cabins <= 8; cabins++) {
            for (int k : new int[] {0, 1, 2, 3, 4, 5, 6, 7, 8, 9, 10, 32, 40, 47, 59, 60, 64, 99}) {
                number(Edge.cabins(cabins) + "home ", k, " 0 59;", cabins + 1, k < cabins);
            }
            // told behind it is not told yet
            number(Edge.cabins(cabins) + "home ", cabins, " 0 0;cabin 1;", cabins + 2, false);
        }
        items("home between cabins", "cabin 1;home 0 0 0;cabin 2;home 1 0 0;home 0 1 1;", 5);
        fault("home of the one behind", "cabin 1;home 1 0 0;cabin 2;", 13);
    }

    // ---- cabins

    private static void promise4NinthCabin() {
        String eight = Edge.cabins(8);
        items("eight", eight, 8);
        items("eight, and other items", eight + "home 7 0 59;lake 1;moon 0 0;", 11);
        String[] ninths = {"cabin 8;", "cabin 40;", "cabin 48;", "cabin 100;", "cabin ;", "cabin", "cabin  ", "cabin ?",
            "cabin cabin", "cabin08;"};
        for (String ninth : ninths) {
            fault("a ninth, at its word", eight + ninth, eight.length());
            fault("a ninth, behind blanks", eight + "   " + ninth, eight.length() + 3);
            fault("a ninth, behind another item", eight + "lake 1;" + ninth, eight.length() + 7);
        }
        fault("a ninth word that is none", eight + "cabins 8;", eight.length());
        fault("an eighth's number that is none", Edge.cabins(7) + "cabin 48;", 7 * 9 + 6);
    }

    private static void promise4CabinsAndLakes() {
        for (int cell : new int[] {0, 7, 8, 39, 40, 47}) {
            fault("a cell that has a cabin", "cabin " + cell + ";cabin " + cell + ";", ("cabin " + cell + ";cabin ").length());
            fault("a cell that has the first of three", "cabin " + cell + ";cabin 20;cabin 21;cabin " + cell + ";",
                    ("cabin " + cell + ";cabin 20;cabin 21;cabin ").length());
            fault("a cell that has the last of three", "cabin 20;cabin 21;cabin " + cell + ";cabin " + cell + ";",
                    ("cabin 20;cabin 21;cabin " + cell + ";cabin ").length());
            fault("a cell that is a lake", "lake " + cell + ";cabin " + cell + ";", ("lake " + cell + ";cabin ").length());
            fault("a lake where a cabin stands", "cabin " + cell + ";lake " + cell + ";", ("cabin " + cell + ";lake ").length());
            fault("a lake again", "path " + cell + ";lake " + cell + ";cabin " + cell + ";",
                    ("path " + cell + ";lake " + cell + ";cabin ").length());
            items("a lake no more", "lake " + cell + ";swamp " + cell + ";cabin " + cell + ";", 3);
            items("a lake no more, but a path", "lake " + cell + ";path " + cell + ";cabin " + cell + ";", 3);
            items("path and swamp with a cabin", "cabin " + cell + ";path " + cell + ";swamp " + cell + ";", 3);
            items("a cabin and a lake beside it", "cabin " + cell + ";lake " + (cell + (cell % 8 == 0 ? 1 : -1)) + ";", 2);
        }
        for (int k = 0; k < 8; k++) {
            fault("a lake where the cabin " + k + " stands", Edge.cabins(8) + "lake " + (40 + k) + ";", 72 + 5);
        }
    }

    // ---- what a fault does

    private static void promise4FirstFaultCounts() {
        fault("a token that can't stand, ahead of one that is none", "path path 100;", 5);
        fault("one that is none, ahead of one that can't stand", "path 100 path;", 5);
        fault("ahead of a ninth cabin", Edge.cabins(7) + "cabin 40;cabin 8;cabin 9;", 63 + 6);
        fault("in the second of three items", "lake 1;lake 48;lake 99;", 12);
        fault("ahead of the text's end", "path 48", 5);
        fault("a lake's cabin without ;", "lake 5;cabin 5", 13);
        fault("D ahead of E", "moon 60 59;", 5);
        fault("K ahead of D and E", "home 0 60 61;", 5);
    }

    private static void promise4FaultKeepsTheText() {
        OnlyBatteries x = Check.of("lake 3;cabin 9;home 0 7 8;moon 1 1;");
        Check.type(x, "path 3;cabin 10;home 0 0 59;snow 0 59");
        for (int i = 0; i < 3; i++) {
            due("promise 4: a fault, again", x.year(), -10 - 37);
            due("promise 4: the text stays", x.count(3), 37);
        }
        due("promise 4: ground(3) stays", x.ground(3), 3);
        due("promise 4: no cabin came", x.count(0), 1);
        due("promise 4: free(0, 0) stays", x.free(0, 0), 1);
        due("promise 4: free(0, 7) stays", x.free(0, 7), 0);
        due("promise 4: free(0, 1) stays", x.free(0, 1), 0);
        x.type(';', 1);
        due("promise 4: mended, it is read", x.year(), 4);
        due("promise 4: the text is empty then", x.count(3), 0);
        due("promise 4: ground(3)", x.ground(3), 1);
        due("promise 4: cabins", x.count(0), 1);
        due("promise 4: cabin 0", x.cabin(0), 10);
    }

    private static void promise4WhatIsNotTold() {
        for (String anew : new String[] {"", "   ", "path 5;", "cabin 11;", "moon 59 59;"}) {
            OnlyBatteries x = Check.of("lake 3;cabin 9;cabin 10;home 0 0 59;home 1 0 59;moon 1 2;snow 4 4;");
            x.tune(0, 77);
            x.theft(0, 0, 1, 0, 1, 0);
            x.list(0, 5);
            x.weigh(0, 0);
            x.keep(0);
            x.keep(1);
            Check.type(x, anew);
            int items = anew.isBlank() ? 0 : 1;
            due("promise 4: year() of '" + anew + "'", x.year(), items);
            due("promise 4: no lake told, '" + anew + "'", x.ground(3), 0);
            due("promise 4: a path told, '" + anew + "'", x.ground(5), anew.startsWith("path") ? 1 : 0);
            due("promise 4: cabins told, '" + anew + "'", x.count(0), anew.startsWith("cabin") ? 1 : 0);
            due("promise 4: no thefts, '" + anew + "'", x.count(1), 0);
            due("promise 4: no lists, '" + anew + "'", x.count(4), 0);
            due("promise 4: image 0 is gone, '" + anew + "'", x.back(0), -2);
            due("promise 4: image 1 is gone, '" + anew + "'", x.back(1), -2);
            due("promise 4: tunes stay, '" + anew + "'", x.tune(0, 32), 77);
            due("promise 4: the trace goes on, '" + anew + "'", x.trace(), 1);
            Check.type(x, "cabin 9;cabin 10;");
            x.year();
            for (int night = 0; night < 60; night++) {
                due("promise 4: none at home, none bright, '" + anew + "'", x.free(0, night) + x.free(1, night), 2);
            }
            due("promise 9: the first theft again, '" + anew + "'", x.theft(0, 3, 5, 0, 1, 0), 0);
            due("promise 30: it has no lists, '" + anew + "'", x.count(4), 0);
            due("promise 25: and no loss, '" + anew + "'", x.loss(0), 0);
            due("promise 22: its first list, '" + anew + "'", x.list(0, 9), 1);
            due("promise 23: with one, '" + anew + "'", x.grew(0), 0);
        }
    }
}
