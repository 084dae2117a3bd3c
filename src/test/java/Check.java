/** Counts the answers that are not as due, and types texts. */
final class Check {
    private final String name;
    private int asked = 0;
    private int wrong = 0;

    Check(String name) {
        this.name = name;
    }

    void due(String call, long got, long want) {
        asked++;
        if (got != want) {
            wrong++;
            System.out.println(name + ": " + call + " answered " + got + ", due is " + want);
        }
    }

    /** Types a text, eight bytes at a time. */
    static void type(OnlyBatteries x, String text) {
        for (int i = 0; i < text.length(); i += 8) {
            String part = text.substring(i, Math.min(text.length(), i + 8));
            long v = 0;
            for (int j = 0; j < part.length(); j++) {
                v = v << 8 | part.charAt(j) & 255;
            }
            x.type(v, part.length());
        }
    }

    /** What year() answers to a text on a new object. */
    static int read(String text) {
        OnlyBatteries x = new OnlyBatteries();
        type(x, text);
        return x.year();
    }

    /** A new object with a year that must be free of faults. */
    static OnlyBatteries of(String text) {
        OnlyBatteries x = new OnlyBatteries();
        type(x, text);
        int items = x.year();
        if (items < 0) {
            throw new IllegalStateException("the test's own text has a fault: " + items + " in " + text);
        }
        return x;
    }

    void end() {
        System.out.println(name + ": " + asked + " answers, " + wrong + " not as due");
        if (wrong != 0 || asked == 0) {
            System.exit(1);
        }
    }
}
