import java.util.Arrays;

/** A wood and its cabins, told by a text, and the thefts of one who took only batteries. */
public final class OnlyBatteries {
    public static final int BAD = -1, STATE = -2, FULL = -3, NONE = -9;
    public static final int NO = -1000000;

    private static final int WIDTH = 8, CELLS = 48;
    private static final long FIRST_COLUMN = 0x010101010101L, LAST_COLUMN = 0x808080808080L;
    private static final int WOOD = 0, PATH = 1, SWAMP = 2, LAKE = 3, GROUNDS = 4;
    private static final int CABINS = 8, NIGHTS = 60, THEFTS = 12, LISTS = 5, IMAGES = 2;
    private static final int COINS_MOST = 9999, PURSE_MOST = 99999, LOAD_MOST = 30;
    private static final int TEXT_BYTES = 400, FAULT_BASE = -10;
    private static final int LONG = 0, APART = 1, EATS = 2, HOLDS = 3, BAR = 4, TUNES = 5;
    private static final int[] TUNE_FIRST = {32, 4, 2, 30, 5};
    private static final int[] TUNE_LEAST = {1, 0, 1, 1, 0};
    private static final int[] TUNE_MOST = {99, 20, 9, 60, 30};

    private final Text text = new Text();
    private final Year draft = new Year();
    private final Facts facts = new Facts();
    private final Walks walks = new Walks(facts.year);
    private final Camps campsites = new Camps(facts, walks);
    private final Takers crew = new Takers(facts);
    private final Stores larder = new Stores(facts, walks);
    private final Watches watches = new Watches(facts);
    private final Book[] images = new Book[IMAGES];
    private final boolean[] kept = new boolean[IMAGES];
    private long asked;

    public OnlyBatteries() {
        for (int i = 0; i < IMAGES; i++) {
            images[i] = new Book();
        }
    }

    // ---- the year

    public int type(long v, int n) {
        return text.add(v, n);
    }

    public int clear() {
        return text.drop();
    }

    public int year() {
        int items = text.read(draft);
        if (items < 0) {
            return items;
        }
        text.drop();
        facts.year.become(draft);
        facts.book.drop();
        walks.forget();
        for (int i = 0; i < IMAGES; i++) {
            kept[i] = false;
        }
        return items;
    }

    public int ground(int cell) {
        return facts.year.groundAt(cell);
    }

    public int cabin(int k) {
        return facts.year.cellOf(k);
    }

    public int free(int k, int night) {
        if (!facts.year.isCabin(k) || !isIn(night, 0, NIGHTS - 1)) {
            return BAD;
        }
        return hasBit(facts.year.freeNights(k), night) ? 1 : 0;
    }

    public int tune(int what, int v) {
        return facts.setTune(what, v);
    }

    // ---- thefts

    public int theft(int cabin, int last, int missed, int goods, int load, int left) {
        boolean days = isIn(last, 0, NIGHTS - 2) && isIn(missed, last + 1, NIGHTS - 1);
        boolean things = isIn(goods, 0, 63) && isIn(load, 1, LOAD_MOST) && isIn(left, 0, 7);
        if (!facts.year.isCabin(cabin) || !days || !things) {
            return BAD;
        }
        return facts.book.add(cabin, last, missed, goods, load, left);
    }

    public int about(int t, int what) {
        Theft theft = facts.book.at(t);
        if (theft == null) {
            return BAD;
        }
        switch (what) {
            case 0: return theft.cabin;
            case 1: return theft.last;
            case 2: return theft.missed;
            case 3: return theft.goods;
            case 4: return theft.load;
            case 5: return theft.left;
            case 6: return theft.marks();
            case 7: return facts.isHis(theft) ? 1 : 0;
            default: return BAD;
        }
    }

    public int could(int t, int what) {
        Theft theft = facts.book.at(t);
        if (theft == null || !isIn(what, 0, 2)) {
            return BAD;
        }
        long nights = facts.nightsOf(theft);
        switch (what) {
            case 0: return Long.bitCount(nights);
            case 1: return firstOf(nights);
            default: return lastOf(nights);
        }
    }

    // ---- walks, camps

    public int walk(int from, int to) {
        return isCell(from) && isCell(to) ? walks.way(from, to) : BAD;
    }

    public int trip(int cell, int cabin, int load) {
        if (!isCell(cell) || !facts.year.isCabin(cabin) || !isIn(load, 1, LOAD_MOST)) {
            return BAD;
        }
        return walks.outing(cell, facts.year.cellOf(cabin), load);
    }

    public int camp(int cell) {
        if (!isCell(cell)) {
            return BAD;
        }
        return campsites.tripsFrom(cell) >= 0 ? 1 : 0;
    }

    public int camps(int what) {
        if (!isIn(what, 0, 3)) {
            return BAD;
        }
        campsites.find();
        switch (what) {
            case 0: return Long.bitCount(campsites.cells);
            case 1: return campsites.best;
            case 2: return campsites.bestTrips;
            default: return campsites.heaps();
        }
    }

    // ---- takers, stores

    public int takers() {
        return crew.fewest();
    }

    public int alone(int t) {
        return facts.book.at(t) == null ? BAD : crew.nightOfOne(t);
    }

    public int stores(int cell, int d, int e, int f, int k) {
        boolean land = isCell(cell) && facts.year.groundAt(cell) != LAKE;
        if (!land || !isStay(d, e, f) || k < -1) {
            return BAD;
        }
        int outings = larder.fewest(cell, d, e, f);
        if (k == -1 || outings == NONE) {
            return outings;
        }
        return k < outings ? larder.outing(d, e, f, k) : BAD;
    }

    public int starves(int d, int e, int f) {
        int eats = facts.tuneOf(EATS);
        if (!isStay(d, e, f) || eats < 1) {
            return BAD;
        }
        return Math.min(d + f / eats, e + 1);
    }

    private boolean isStay(int d, int e, int f) {
        return areNights(d, e) && isIn(f, 0, facts.tuneOf(HOLDS));
    }

    // ---- watches

    public int watch(int set, int d, int e) {
        if (!isIn(set, 0, 255) || !areNights(d, e)) {
            return BAD;
        }
        int sum = 0;
        for (int k = 0; k < CABINS; k++) {
            sum += hasBit(set, k) ? watches.worthOf(k, span(d, e)) : 0;
        }
        return sum;
    }

    public int place(int m, int l, int what) {
        if (!isIn(m, 1, 3) || !isIn(l, 1, NIGHTS) || !isIn(what, 0, 2)) {
            return BAD;
        }
        if (facts.year.cabins == 0) {
            return NONE;
        }
        watches.find(m, l);
        switch (what) {
            case 0: return watches.bestSet;
            case 1: return watches.bestNight;
            default: return watches.bestWorth;
        }
    }

    // ---- lists, amends

    public int list(int t, int coins) {
        Theft theft = facts.book.at(t);
        if (theft == null || !isIn(coins, 0, COINS_MOST)) {
            return BAD;
        }
        return theft.addList(coins);
    }

    public int grew(int t) {
        Theft theft = facts.book.at(t);
        return theft == null ? NO : theft.growth();
    }

    public int most() {
        int best = NONE;
        int growth = 0;
        for (int t = 0; t < THEFTS; t++) {
            Theft theft = facts.book.at(t);
            if (theft != null && theft.growth() > growth) {
                best = t;
                growth = theft.growth();
            }
        }
        return best;
    }

    public int loss(int k) {
        return facts.year.isCabin(k) ? facts.lossOf(k) : BAD;
    }

    public int amends(int purse, int k) {
        if (!isIn(purse, 0, PURSE_MOST) || !facts.year.isCabin(k)) {
            return BAD;
        }
        return facts.shareOf(purse, k);
    }

    // ---- kinds, images

    public int weigh(int kind, int t) {
        Theft theft = facts.book.at(t);
        if (theft == null) {
            return NO;
        }
        switch (kind) {
            case 0: return asTheft(theft);
            case 1: return asHis(theft);
            case 2: return asTheirs(theft);
            case 3: return asFood(theft);
            case 4: return asLight(theft);
            case 5: return asLost(theft);
            default: return NO;
        }
    }

    public int keep(int image) {
        if (!isIn(image, 0, IMAGES - 1) || images[image] == null) {
            return BAD;
        }
        images[image].become(facts.book);
        kept[image] = true;
        return facts.book.held;
    }

    public int back(int image) {
        if (!isIn(image, 0, IMAGES - 1) || images[image] == null) {
            return BAD;
        }
        if (!kept[image]) {
            return STATE;
        }
        facts.book.become(images[image]);
        return facts.book.held;
    }

    public int count(int what) {
        switch (what) {
            case 0: return facts.year.cabins;
            case 1: return facts.book.held;
            case 2: return facts.countHis();
            case 3: return text.length;
            case 4: return facts.book.countLists();
            default: return BAD;
        }
    }

    public long trace() {
        return asked;
    }

    private int asTheft(Theft theft) {
        asked += 1;
        return theft.load;
    }

    private int asHis(Theft theft) {
        asked += 10;
        return asTheft(theft) + Long.bitCount(facts.nightsOf(theft));
    }

    private int asTheirs(Theft theft) {
        asked += 100;
        return asTheft(theft) * theft.marks();
    }

    private int asFood(Theft theft) {
        asked += 1000;
        return asHis(theft) + Integer.bitCount(theft.goods);
    }

    private int asLight(Theft theft) {
        asked += 10000;
        return 2 * asFood(theft);
    }

    private int asLost(Theft theft) {
        asked += 100000;
        return asTheft(theft) - theft.cabin;
    }

    // ---- numbers and rows of bits

    private static boolean isIn(int v, int least, int most) {
        return v >= least && v <= most;
    }

    private static boolean isCell(int cell) {
        return isIn(cell, 0, CELLS - 1);
    }

    private static boolean areNights(int d, int e) {
        return isIn(d, 0, NIGHTS - 1) && isIn(e, d, NIGHTS - 1);
    }

    private static boolean hasBit(long bits, int place) {
        return (bits >>> place & 1) != 0;
    }

    /** The bits first .. last, both of them nights. */
    private static long span(int first, int last) {
        return (1L << (last - first + 1)) - 1 << first;
    }

    private static int firstOf(long nights) {
        for (int night = 0; night < NIGHTS; night++) {
            if (hasBit(nights, night)) {
                return night;
            }
        }
        return NONE;
    }

    private static int lastOf(long nights) {
        for (int night = NIGHTS - 1; night >= 0; night--) {
            if (hasBit(nights, night)) {
                return night;
            }
        }
        return NONE;
    }

    /** The cells that lie beside one of these; rows of eight bits, so that nothing goes round a row's end. */
    private static long aside(long cells) {
        long right = (cells & ~LAST_COLUMN) << 1;
        long left = (cells & ~FIRST_COLUMN) >>> 1;
        return (right | left | cells << WIDTH | cells >>> WIDTH) & (1L << CELLS) - 1;
    }

    /** The text that is typed, and its reading, token by token. */
    private static final class Text {
        private static final int END = 0, WORD = 1, NUMBER = 2, STOP = 3, WRONG = 4;
        // words that tell a ground are numbered as it is
        private static final int CABIN = 4, HOME = 5, MOON = 6, SNOW = 7;

        private final byte[] bytes = new byte[TEXT_BYTES];
        private final int[] numbers = new int[3];
        private int length;
        private int token;
        private int start;
        private int behind;
        private int number;

        int add(long v, int n) {
            if (!isIn(n, 1, 8)) {
                return BAD;
            }
            if (length + n > TEXT_BYTES) {
                return FULL;
            }
            for (int i = n - 1; i >= 0 && length < TEXT_BYTES; i--) {
                bytes[length] = (byte) (v >>> 8 * i);
                length++;
            }
            return length;
        }

        int drop() {
            int had = length;
            length = 0;
            return had;
        }

        /** How many items; or FAULT_BASE less the fault, which is always the start of the token that was read last. */
        int read(Year year) {
            year.reset();
            behind = 0;
            step();
            int items = 0;
            while (token != END && items < TEXT_BYTES) {
                if (!readItem(year)) {
                    return FAULT_BASE - start;
                }
                items++;
                step();
            }
            return items;
        }

        private boolean readItem(Year year) {
            int word = token == WORD ? readWord() : NONE;
            if (word == NONE || word == CABIN && year.cabins >= CABINS) {
                return false;
            }
            int wanted = numbersOf(word);
            for (int i = 0; i < wanted && i < numbers.length; i++) {
                if (step() != NUMBER || !canStand(year, word, i)) {
                    return false;
                }
                numbers[i] = number;
            }
            tell(year, word);
            return step() == STOP;
        }

        private int readWord() {
            if (isWord("path")) {
                return PATH;
            }
            if (isWord("swamp")) {
                return SWAMP;
            }
            if (isWord("lake")) {
                return LAKE;
            }
            if (isWord("cabin")) {
                return CABIN;
            }
            if (isWord("home")) {
                return HOME;
            }
            if (isWord("moon")) {
                return MOON;
            }
            return isWord("snow") ? SNOW : NONE;
        }

        private static int numbersOf(int word) {
            switch (word) {
                case HOME: return 3;
                case MOON: case SNOW: return 2;
                default: return 1;
            }
        }

        /** Whether the number that was read can be an item's i-th. */
        private boolean canStand(Year year, int word, int i) {
            switch (word) {
                case PATH: case SWAMP:
                    return number < CELLS;
                case LAKE:
                    return number < CELLS && !year.hasCabin(number);
                case CABIN:
                    return number < CELLS && !year.hasCabin(number) && year.groundAt(number) != LAKE;
                case HOME:
                    return i == 0 ? number < year.cabins : canBeDay(i == 1 ? 0 : numbers[1]);
                default:
                    return canBeDay(i == 0 ? 0 : numbers[0]);
            }
        }

        private boolean canBeDay(int least) {
            return isIn(number, least, NIGHTS - 1);
        }

        private void tell(Year year, int word) {
            switch (word) {
                case PATH: case SWAMP: case LAKE:
                    year.setGround(numbers[0], word);
                    break;
                case CABIN:
                    year.addCabin(numbers[0]);
                    break;
                case HOME:
                    year.addHome(numbers[0], span(numbers[1], numbers[2]));
                    break;
                default:
                    year.unfit |= span(numbers[0], numbers[1]);
            }
        }

        private int step() {
            start = behind;
            while (start < length && at(start) == ' ') {
                start++;
            }
            behind = start;
            if (start >= length) {
                token = END;
            } else if (isLetter(at(start))) {
                token = readLetters();
            } else if (isDigit(at(start))) {
                token = readDigits();
            } else {
                token = at(start) == ';' ? STOP : WRONG;
                behind++;
            }
            return token;
        }

        private int readLetters() {
            while (behind < length && isLetter(at(behind))) {
                behind++;
            }
            return WORD;
        }

        private int readDigits() {
            number = 0;
            while (behind < length && isDigit(at(behind))) {
                // a number that is too long is wrong anyway, so it need not grow on
                number = Math.min(100, 10 * number + at(behind) - '0');
                behind++;
            }
            boolean zeroAhead = at(start) == '0' && behind - start > 1;
            return number > 99 || zeroAhead ? WRONG : NUMBER;
        }

        private boolean isWord(String word) {
            boolean same = behind - start == word.length();
            for (int i = 0; same && i < word.length(); i++) {
                same = at(start + i) == word.charAt(i);
            }
            return same;
        }

        private int at(int place) {
            return place >= 0 && place < length && place < TEXT_BYTES ? bytes[place] & 255 : -1;
        }

        private static boolean isLetter(int sign) {
            return isIn(sign, 'a', 'z');
        }

        private static boolean isDigit(int sign) {
            return isIn(sign, '0', '9');
        }
    }

    /** What the text tells: the ground, the cabins, who is at home, and the nights on which none goes out. */
    private static final class Year {
        private final long[] grounds = new long[GROUNDS];
        private final int[] places = new int[CABINS];
        private final long[] homes = new long[CABINS];
        private int cabins;
        private long unfit;

        Year() {
            grounds[WOOD] = (1L << CELLS) - 1;
        }

        void reset() {
            Arrays.fill(grounds, 0);
            grounds[WOOD] = (1L << CELLS) - 1;
            Arrays.fill(homes, 0);
            cabins = 0;
            unfit = 0;
        }

        void become(Year other) {
            System.arraycopy(other.grounds, 0, grounds, 0, GROUNDS);
            System.arraycopy(other.places, 0, places, 0, CABINS);
            System.arraycopy(other.homes, 0, homes, 0, CABINS);
            cabins = other.cabins;
            unfit = other.unfit;
        }

        void setGround(int cell, int ground) {
            for (int g = 0; g < GROUNDS && isCell(cell); g++) {
                long others = grounds[g] & ~(1L << cell);
                grounds[g] = g == ground ? others | 1L << cell : others;
            }
        }

        void addCabin(int cell) {
            if (isIn(cabins, 0, CABINS - 1)) {
                places[cabins] = cell;
                cabins++;
            }
        }

        void addHome(int k, long days) {
            if (isCabin(k)) {
                homes[k] |= days;
            }
        }

        boolean hasCabin(int cell) {
            for (int k = 0; k < CABINS; k++) {
                if (k < cabins && places[k] == cell) {
                    return true;
                }
            }
            return false;
        }

        boolean isCabin(int k) {
            return k >= 0 && k < cabins && k < CABINS;
        }

        int cellOf(int k) {
            return isCabin(k) ? places[k] : BAD;
        }

        long freeNights(int k) {
            return isCabin(k) ? span(0, NIGHTS - 1) & ~homes[k] & ~unfit : 0;
        }

        long cellsOf(int ground) {
            return ground >= 0 && ground < GROUNDS ? grounds[ground] : 0;
        }

        int groundAt(int cell) {
            for (int g = 0; g < GROUNDS; g++) {
                if (isCell(cell) && hasBit(grounds[g], cell)) {
                    return g;
                }
            }
            return BAD;
        }
    }

    /** The fewest quarters from cell to cell, found when a cell is first left from. */
    private static final class Walks {
        private static final int QUARTERS_MOST = 3 * CELLS;

        private final Year year;
        private final int[] ways = new int[CELLS * CELLS];
        private long known;

        Walks(Year year) {
            this.year = year;
        }

        void forget() {
            known = 0;
        }

        int way(int from, int to) {
            if (!isCell(from) || !isCell(to)) {
                return NONE;
            }
            if (!hasBit(known, from)) {
                measure(from);
            }
            return ways[from * CELLS + to];
        }

        int outing(int from, int to, int load) {
            int there = way(from, to);
            int back = way(to, from);
            if (there == NONE || back == NONE) {
                return NONE;
            }
            return there + (back * (20 + load) + 19) / 20;
        }

        /**
         * Quarter by quarter: a cell is reached as soon as one beside it was reached so many quarters
         * ago as it takes to go into the cell (a path one, wood two, a swamp three).
         */
        private void measure(int from) {
            known |= 1L << from;
            note(from, (1L << CELLS) - 1, NONE);
            long reached = 1L << from & ~year.cellsOf(LAKE);
            note(from, reached, 0);
            long one = reached;
            long two = 0;
            long three = 0;
            for (int q = 1; q <= QUARTERS_MOST && (one | two | three) != 0; q++) {
                long paths = aside(one) & year.cellsOf(PATH);
                long woods = aside(two) & year.cellsOf(WOOD);
                long swamps = aside(three) & year.cellsOf(SWAMP);
                three = two;
                two = one;
                one = (paths | woods | swamps) & ~reached;
                reached |= one;
                note(from, one, q);
            }
        }

        private void note(int from, long cells, int quarters) {
            for (int cell = 0; cell < CELLS && cells >>> cell != 0; cell++) {
                int place = from * CELLS + cell;
                if ((cells >>> cell & 1) != 0 && place >= 0 && place < ways.length) {
                    ways[place] = quarters;
                }
            }
        }
    }

    /** One theft, and the lists of its owner. */
    private static final class Theft {
        private static final int BATTERIES = 1, BOOK = 3, MONEY = 5;
        private static final int DOOR = 0, MESS = 1, BOTTLES = 2;

        private int cabin;
        private int last;
        private int missed;
        private int goods;
        private int load;
        private int left;
        private int lists;
        private final int[] coins = new int[LISTS];

        void become(Theft other) {
            cabin = other.cabin;
            last = other.last;
            missed = other.missed;
            goods = other.goods;
            load = other.load;
            left = other.left;
            lists = other.lists;
            System.arraycopy(other.coins, 0, coins, 0, LISTS);
        }

        int marks() {
            int more = (hasBit(left, DOOR) ? 4 : 0) + (hasBit(left, MESS) ? 5 : 0)
                    + (hasBit(left, BOTTLES) ? 6 : 0) + (hasBit(goods, MONEY) ? 3 : 0);
            int less = (hasBit(goods, BATTERIES) ? 4 : 0) + (hasBit(goods, BOOK) ? 2 : 0);
            return Math.max(0, more - less);
        }

        int addList(int sum) {
            if (!isIn(lists, 0, LISTS - 1)) {
                return FULL;
            }
            coins[lists] = sum;
            lists++;
            return lists;
        }

        int firstList() {
            return lists > 0 ? coins[0] : 0;
        }

        int growth() {
            return isIn(lists, 2, LISTS) ? coins[lists - 1] - coins[0] : 0;
        }
    }

    /** The thefts, as they came. */
    private static final class Book {
        private final Theft[] thefts = new Theft[THEFTS];
        private int held;

        Book() {
            for (int t = 0; t < THEFTS; t++) {
                thefts[t] = new Theft();
            }
        }

        void drop() {
            held = 0;
        }

        void become(Book other) {
            held = other.held;
            for (int t = 0; t < THEFTS; t++) {
                if (thefts[t] != null && other.thefts[t] != null) {
                    thefts[t].become(other.thefts[t]);
                }
            }
        }

        int add(int cabin, int last, int missed, int goods, int load, int left) {
            if (!isIn(held, 0, THEFTS - 1)) {
                return FULL;
            }
            Theft theft = thefts[held];
            if (theft == null) {
                return FULL;
            }
            theft.cabin = cabin;
            theft.last = last;
            theft.missed = missed;
            theft.goods = goods;
            theft.load = load;
            theft.left = left;
            theft.lists = 0;
            held++;
            return held - 1;
        }

        /** Null, if there is no such theft. */
        Theft at(int t) {
            return t >= 0 && t < held && t < THEFTS ? thefts[t] : null;
        }

        int countLists() {
            int lists = 0;
            for (int t = 0; t < THEFTS; t++) {
                Theft theft = at(t);
                lists += theft == null ? 0 : theft.lists;
            }
            return lists;
        }
    }

    /** The year, the thefts and the tunes, and what follows from them for a theft or a cabin. */
    private static final class Facts {
        private final Year year = new Year();
        private final Book book = new Book();
        private final int[] tunes = TUNE_FIRST.clone();

        int tuneOf(int what) {
            return isIn(what, 0, TUNES - 1) ? tunes[what] : 0;
        }

        int setTune(int what, int v) {
            if (!isIn(what, 0, TUNES - 1) || !isIn(v, TUNE_LEAST[what], TUNE_MOST[what])) {
                return BAD;
            }
            int was = tunes[what];
            tunes[what] = v;
            return was;
        }

        boolean isHis(Theft theft) {
            return theft != null && theft.marks() < tuneOf(BAR);
        }

        int countHis() {
            int his = 0;
            for (int t = 0; t < THEFTS; t++) {
                his += isHis(book.at(t)) ? 1 : 0;
            }
            return his;
        }

        long nightsOf(Theft theft) {
            return theft == null ? 0 : year.freeNights(theft.cabin) & span(theft.last, theft.missed - 1);
        }

        int lossOf(int k) {
            int sum = 0;
            for (int t = 0; t < THEFTS; t++) {
                Theft theft = book.at(t);
                if (theft != null && theft.cabin == k && isHis(theft)) {
                    sum += theft.firstList();
                }
            }
            return sum;
        }

        int shareOf(int purse, int k) {
            long all = 0;
            for (int other = 0; other < CABINS; other++) {
                all += lossOf(other);
            }
            if (purse >= all || all <= 0) {
                return lossOf(k);
            }
            // purse times a loss is beyond an int
            long mine = (long) purse * lossOf(k);
            long over = purse;
            int ahead = 0;
            for (int other = 0; other < CABINS; other++) {
                long theirs = (long) purse * lossOf(other);
                over -= theirs / all;
                long lostMore = theirs % all - mine % all;
                ahead += lostMore > 0 || lostMore == 0 && other < k ? 1 : 0;
            }
            return (int) (mine / all) + (ahead < over ? 1 : 0);
        }
    }

    /** Where the camp can be. */
    private static final class Camps {
        private final Facts facts;
        private final Walks walks;
        private long cells;
        private int best;
        private int bestTrips;

        Camps(Facts facts, Walks walks) {
            this.facts = facts;
            this.walks = walks;
        }

        void find() {
            cells = 0;
            best = NONE;
            bestTrips = NONE;
            for (int cell = 0; cell < CELLS; cell++) {
                int trips = tripsFrom(cell);
                if (trips < 0) {
                    continue;
                }
                cells |= 1L << cell;
                if (best == NONE || trips < bestTrips) {
                    best = cell;
                    bestTrips = trips;
                }
            }
        }

        /** All his trips from a cell, added; NONE, if it is no camp. */
        int tripsFrom(int cell) {
            if (!isCell(cell) || !isOnShore(cell) || !isApart(cell)) {
                return NONE;
            }
            int sum = 0;
            for (int t = 0; t < THEFTS; t++) {
                Theft theft = facts.book.at(t);
                if (theft == null || !facts.isHis(theft)) {
                    continue;
                }
                int outing = walks.outing(cell, facts.year.cellOf(theft.cabin), theft.load);
                if (outing == NONE || outing > facts.tuneOf(LONG)) {
                    return NONE;
                }
                sum += outing;
            }
            return sum;
        }

        int heaps() {
            int heaps = 0;
            for (long rest = cells; rest != 0 && heaps < CELLS; heaps++) {
                rest &= ~heapIn(rest);
            }
            return heaps;
        }

        private long heapIn(long among) {
            long heap = among & -among;
            for (int i = 0; i < CELLS; i++) {
                heap |= aside(heap) & among;
            }
            return heap;
        }

        private boolean isOnShore(int cell) {
            long lakes = facts.year.cellsOf(LAKE);
            long shore = aside(lakes | facts.year.cellsOf(SWAMP)) & ~lakes;
            return hasBit(shore, cell);
        }

        private boolean isApart(int cell) {
            for (int k = 0; k < CABINS; k++) {
                int way = walks.way(cell, facts.year.cellOf(k));
                if (way != NONE && way < facts.tuneOf(APART)) {
                    return false;
                }
            }
            return true;
        }
    }

    /** His thefts, put into nights that hold so many each as there are takers. */
    private static final class Takers {
        private static final int NOWHERE = -1;

        private final Facts facts;
        private final long[] choices = new long[THEFTS];
        private final int[] nights = new int[THEFTS];
        private final int[] queue = new int[THEFTS];
        private final int[] reachedBy = new int[NIGHTS];

        Takers(Facts facts) {
            this.facts = facts;
        }

        int fewest() {
            choose();
            for (int men = 0; men < THEFTS; men++) {
                if (isEnough(men)) {
                    return men;
                }
            }
            return THEFTS;
        }

        int nightOfOne(int t) {
            choose();
            if (!isEnough(1)) {
                return STATE;
            }
            if (!isIn(t, 0, THEFTS - 1)) {
                return NONE;
            }
            for (int earlier = 0; earlier <= t && earlier < THEFTS; earlier++) {
                narrow(earlier);
            }
            return firstOf(choices[t]);
        }

        /** A theft that is left out has no choice. */
        private void choose() {
            for (int t = 0; t < THEFTS; t++) {
                Theft theft = facts.book.at(t);
                choices[t] = facts.isHis(theft) ? facts.nightsOf(theft) : 0;
            }
        }

        /** Leaves a theft the first night only with which all others can still be. */
        private void narrow(int t) {
            if (!isIn(t, 0, THEFTS - 1)) {
                return;
            }
            long own = choices[t];
            for (int night = 0; night < NIGHTS; night++) {
                if (!hasBit(own, night)) {
                    continue;
                }
                choices[t] = 1L << night;
                if (isEnough(1)) {
                    return;
                }
            }
        }

        private boolean isEnough(int men) {
            Arrays.fill(nights, NOWHERE);
            for (int t = 0; t < THEFTS; t++) {
                if (choices[t] != 0 && !isPlaced(t, men)) {
                    return false;
                }
            }
            return true;
        }

        /** Looks, breadth first, for a night with room, by way of thefts that can make room in theirs. */
        private boolean isPlaced(int first, int men) {
            long reached = 0;
            int queued = 1;
            queue[0] = first;
            for (int i = 0; i < queued && i < THEFTS; i++) {
                int t = queue[i];
                long next = isIn(t, 0, THEFTS - 1) ? choices[t] & ~reached : 0;
                reached |= next;
                for (int night = 0; night < NIGHTS && next >>> night != 0; night++) {
                    if (!hasBit(next, night)) {
                        continue;
                    }
                    reachedBy[night] = t;
                    int before = queued;
                    queued = queueThoseOf(night, queued);
                    if (queued - before < men) {
                        move(night);
                        return true;
                    }
                }
            }
            return false;
        }

        private int queueThoseOf(int night, int queued) {
            int end = queued;
            for (int t = 0; t < THEFTS; t++) {
                if (nights[t] == night && isIn(end, 0, THEFTS - 1)) {
                    queue[end] = t;
                    end++;
                }
            }
            return end;
        }

        /** Each theft on the way to the night with room goes one night on; the first came from nowhere. */
        private void move(int night) {
            int to = night;
            for (int i = 0; i < THEFTS && isIn(to, 0, NIGHTS - 1); i++) {
                int t = reachedBy[to];
                if (!isIn(t, 0, THEFTS - 1)) {
                    return;
                }
                int from = nights[t];
                nights[t] = to;
                to = from;
            }
        }
    }

    /** What he has, eats, and must fetch. */
    private static final class Stores {
        private static final int FOODS = 61, FETCHES = 12, FETCH_LOAD = 20, NEVER = 1000;

        private final Facts facts;
        private final Walks walks;
        private final int[] needs = new int[(NIGHTS + 1) * FOODS];
        private long open;

        Stores(Facts facts, Walks walks) {
            this.facts = facts;
            this.walks = walks;
        }

        int fewest(int cell, int d, int e, int f) {
            open = openNights(cell);
            for (int food = 0; food < FOODS; food++) {
                put(e + 1, food, 0);
            }
            for (int day = e; day >= d && day >= 0; day--) {
                for (int food = 0; food < FOODS; food++) {
                    put(day, food, need(day, food));
                }
            }
            int outings = get(d, f);
            return outings < NEVER ? outings : NONE;
        }

        /** The k-th night of the row that fewest() has found: he stays whenever he still needs no more outings. */
        int outing(int d, int e, int f, int k) {
            int food = f;
            int gone = 0;
            for (int day = d; day <= e && day < NIGHTS; day++) {
                int rest = food - facts.tuneOf(EATS);
                if (get(day + 1, rest) == get(day, food)) {
                    food = rest;
                    continue;
                }
                if (gone == k) {
                    return day;
                }
                gone++;
                food = filled(rest);
            }
            return BAD;
        }

        private int need(int day, int food) {
            int rest = food - facts.tuneOf(EATS);
            if (rest < 0) {
                return NEVER;
            }
            int stays = get(day + 1, rest);
            int goes = hasBit(open, day) ? get(day + 1, filled(rest)) + 1 : NEVER;
            return Math.min(stays, Math.min(goes, NEVER));
        }

        private int filled(int food) {
            return Math.min(facts.tuneOf(HOLDS), food + FETCHES);
        }

        private long openNights(int cell) {
            long nights = 0;
            for (int k = 0; k < CABINS; k++) {
                int trip = walks.outing(cell, facts.year.cellOf(k), FETCH_LOAD);
                if (trip != NONE && trip <= facts.tuneOf(LONG)) {
                    nights |= facts.year.freeNights(k);
                }
            }
            return nights;
        }

        private int get(int day, int food) {
            return isIn(day, 0, NIGHTS) && isIn(food, 0, FOODS - 1) ? needs[day * FOODS + food] : NEVER;
        }

        private void put(int day, int food, int outings) {
            if (isIn(day, 0, NIGHTS) && isIn(food, 0, FOODS - 1)) {
                needs[day * FOODS + food] = outings;
            }
        }
    }

    /** Where, and from which night on, watching is worth most. */
    private static final class Watches {
        private static final int WHOLE = 1000000;

        private final Facts facts;
        private final int[] worths = new int[CABINS * NIGHTS];
        private int bestSet;
        private int bestNight;
        private int bestWorth;

        Watches(Facts facts) {
            this.facts = facts;
        }

        int worthOf(int k, long nights) {
            int sum = 0;
            for (int t = 0; t < THEFTS; t++) {
                Theft theft = facts.book.at(t);
                boolean here = theft != null && theft.cabin == k && facts.isHis(theft);
                long could = here ? facts.nightsOf(theft) : 0;
                if (could != 0) {
                    sum += WHOLE * Long.bitCount(could & nights) / Long.bitCount(could);
                }
            }
            return sum;
        }

        /** Sets and nights go upward, so that what is only as good as another never displaces it. */
        void find(int men, int length) {
            int cabins = facts.year.cabins;
            int size = Math.min(men, cabins);
            measure(length);
            bestWorth = -1;
            for (int set = 1; set < 1 << CABINS && set < 1 << cabins; set++) {
                for (int night = 0; Integer.bitCount(set) == size && night + length <= NIGHTS; night++) {
                    int worth = worthOfSet(set, night);
                    if (worth > bestWorth) {
                        bestWorth = worth;
                        bestSet = set;
                        bestNight = night;
                    }
                }
            }
        }

        private void measure(int length) {
            for (int k = 0; k < CABINS; k++) {
                for (int night = 0; night < NIGHTS && night + length <= NIGHTS; night++) {
                    worths[k * NIGHTS + night] = worthOf(k, span(night, night + length - 1));
                }
            }
        }

        private int worthOfSet(int set, int night) {
            int sum = 0;
            for (int k = 0; k < CABINS; k++) {
                sum += hasBit(set, k) && isIn(night, 0, NIGHTS - 1) ? worths[k * NIGHTS + night] : 0;
            }
            return sum;
        }
    }
}
