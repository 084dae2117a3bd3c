import java.util.ArrayList;
import java.util.List;

/** Asks calls with one number at the ends of what they take, one beyond on either side, and far beyond. */
final class Edge {
    /** A call in which one number is open. */
    interface Ask {
        long with(int v);
    }

    /** Where an int, or the low bits of one, come round. */
    private static final int[] FAR = {Integer.MIN_VALUE, Integer.MIN_VALUE + 1, -65536, -257, -256, -65, -64, -61, -60,
        -48, -32, -10, -9, -3, -2, -1, 31, 32, 33, 60, 63, 64, 65, 100, 127, 128, 256, 257, 1000, 4096, 65536, 65537,
        100000, 1 << 24, 1 << 30, Integer.MAX_VALUE - 1, Integer.MAX_VALUE};

    private Edge() {
    }

    /** The least and the greatest are taken; all beyond them is refused. */
    static void ends(Check check, String name, int least, int most, long refused, Ask ask) {
        check.due(name + " takes the least, " + least, ask.with(least) == refused ? 0 : 1, 1);
        check.due(name + " takes the greatest, " + most, ask.with(most) == refused ? 0 : 1, 1);
        for (int v : beyond(least, most)) {
            check.due(name + " refuses " + v, ask.with(v), refused);
        }
    }

    /** One beyond on either side, and what is far beyond. */
    static List<Integer> beyond(int least, int most) {
        List<Integer> row = new ArrayList<>();
        row.add(least - 1);
        row.add(most + 1);
        for (int v : FAR) {
            if (v < least - 1 || v > most + 1) {
                row.add(v);
            }
        }
        return row;
    }

    /** So many cabins, on the cells from 40 on. */
    static String cabins(int many) {
        StringBuilder text = new StringBuilder();
        for (int k = 0; k < many; k++) {
            text.append("cabin ").append(40 + k).append(';');
        }
        return text.toString();
    }

    /** All cells are told as one word says; without blanks, so that it goes into 400 bytes. */
    static String everywhere(String word) {
        StringBuilder text = new StringBuilder();
        for (int cell = 0; cell < 48; cell++) {
            text.append(word).append(cell).append(';');
        }
        return text.toString();
    }
}
