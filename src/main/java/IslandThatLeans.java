/**
 * Ballast by trades: an island that floats and leans to where its weights are.
 * The numbered promises that it keeps are told in ../shared/DOC.md.
 */
public final class IslandThatLeans {
    public static final int NONE = -1, UNKNOWN = -101, OUTSIDE = -102, STATE = -103, FULL = -104;

    // Where an answer may be below zero itself, a refusal is told by a number below all answers.
    private static final int LOW = -100000;
    private static final int LOWEST = -1000000;

    private static final int QUARTERS = 8;
    private static final int MOST_THINGS = 8;
    private static final int MOST_WEIGHT = 99;
    private static final int MOST_LETTERS = 40;
    private static final int LETTERS_IN_A_LONG = 8;
    private static final int LAST_CODE = 126;
    private static final int MOST_LETTERS_OF_A_WAY = 7;

    private static final int FEWEST_ROWS = 2;
    private static final int MOST_ROWS = 5;
    private static final int FEWEST_COLUMNS = 2;
    private static final int MOST_COLUMNS = 6;
    private static final int MOST_SQUARES = 30;
    private static final int DIP_BY_HEIGHT = 50;

    private static final int STONE = 1;
    private static final int COW = 2;
    private static final int PERSON = 3;
    private static final int FAT = 4;

    // Numbered as a cow's draw tells them.
    private static final int STAY = 0;
    private static final int UP = 1;
    private static final int RIGHT = 2;
    private static final int DOWN = 3;
    private static final int LEFT = 4;
    private static final int DRAWS_OF_A_COW = 5;

    private static final int MOST_TRADERS = 6;
    private static final int MOST_TRADES_DONE = 30;
    private static final int MOST_STONES_DONE = 20;
    private static final int MOST_STONES_MOVED = 2;
    private static final int MOST_STORM_MINUTES = 9;
    private static final int MOST_COW_MINUTES = 60;
    private static final int MOST_YEARS = 99;
    private static final int FIRST_PLACE = 10;
    private static final int LAST_PLACE = 17;
    private static final int COUNTS = 8;

    private static final int DIGEST_START = 613;
    private static final int DIGEST_FACTOR = 31;
    private static final int DIGEST_SITE = 10;
    private static final int DIGEST_QUARTER = 4;

    private final Page page;
    private final PlanText planText;
    private final Island island;
    private final Things things;
    private final Day day;
    private final Processions processions;
    private final Trades trades;
    private final Stones stones;
    private final Lates lates;
    private final Spots spots;
    private int plansRead;
    private int tradesDone;
    private int stonesDone;

    public IslandThatLeans() {
        page = new Page();
        planText = new PlanText();
        island = new Island();
        things = new Things();
        day = new Day(island, things);
        processions = new Processions(page, island, day);
        trades = new Trades(island, things, day);
        stones = new Stones(island, things, day);
        lates = new Lates(island, things, day);
        spots = new Spots(island, things);
    }

    // ---- texts

    public int letters(long w) {
        return page.add(w);
    }

    public int blank() {
        int had = page.length();
        page.clear();
        return had;
    }

    public int fault(int sort) {
        if (sort == 0) {
            return planText.faultIn(page);
        }
        return sort == 1 ? page.wayFault() : OUTSIDE;
    }

    public int plan() {
        if (!planText.isWhole(page)) {
            return STATE;
        }
        island.read(page, planText.rows(), planText.columns());
        things.clear();
        page.clear();
        plansRead++;
        return island.squares();
    }

    public int square(int square, int what) {
        if (!island.has(square)) {
            return LOW + UNKNOWN;
        }
        switch (what) {
            case 0:
                return island.height(square);
            case 1:
                return island.east(square);
            case 2:
                return island.south(square);
            default:
                return LOW + OUTSIDE;
        }
    }

    // ---- things

    public int thing(int kind, int weight, int square) {
        if (!isKind(kind) || !isWeight(weight)) {
            return OUTSIDE;
        }
        if (!island.has(square)) {
            return UNKNOWN;
        }
        return things.add(kind, weight, square);
    }

    public int about(int thing, int what) {
        if (!things.has(thing)) {
            return UNKNOWN;
        }
        if (asksPlace(what)) {
            return things.place(thing, what - FIRST_PLACE);
        }
        switch (what) {
            case 0:
                return things.kind(thing);
            case 1:
                return things.weight(thing);
            case 2:
                return things.weighs(thing);
            default:
                return OUTSIDE;
        }
    }

    public int as(int thing, int kind) {
        if (!things.has(thing)) {
            return UNKNOWN;
        }
        if (!isKind(kind)) {
            return OUTSIDE;
        }
        return things.isA(thing, kind) ? thing : NONE;
    }

    public int stand(int thing, int quarter, int square) {
        if (!things.has(thing) || !isQuarter(quarter) || !island.has(square)) {
            return UNKNOWN;
        }
        if (!things.isA(thing, PERSON)) {
            return STATE;
        }
        int stood = things.place(thing, quarter);
        things.move(thing, quarter, square);
        return stood;
    }

    public int put(int thing, int square) {
        if (!things.has(thing) || !island.has(square)) {
            return UNKNOWN;
        }
        if (things.isA(thing, PERSON)) {
            return STATE;
        }
        int was = things.place(thing, 0);
        things.moveAllDay(thing, square);
        return was;
    }

    public int trade(int a, int b, int quarter) {
        if (!things.has(a) || !things.has(b) || !isQuarter(quarter)) {
            return UNKNOWN;
        }
        if (!things.isA(a, PERSON) || !things.isA(b, PERSON)) {
            return STATE;
        }
        int ofA = things.place(a, quarter);
        int ofB = things.place(b, quarter);
        things.move(a, quarter, ofB);
        things.move(b, quarter, ofA);
        return ofA == ofB ? 0 : 1;
    }

    // ---- a day

    public int leans(int quarter, int way) {
        if (!isQuarter(quarter)) {
            return LOW + UNKNOWN;
        }
        if (way == 0) {
            return day.leanEast(quarter);
        }
        return way == 1 ? day.leanSouth(quarter) : LOW + OUTSIDE;
    }

    public int dip(int square, int quarter) {
        if (!island.has(square) || !isQuarter(quarter)) {
            return LOWEST + UNKNOWN;
        }
        return island.dipOf(square, day.leanEast(quarter), day.leanSouth(quarter));
    }

    public int wet(int quarter) {
        return isQuarter(quarter) ? day.wetIn(quarter) : UNKNOWN;
    }

    // ---- what would be

    public int trades(int quarter, int what) {
        if (!isQuarter(quarter)) {
            return UNKNOWN;
        }
        if (what != 0 && what != 1 && !asksPlace(what)) {
            return OUTSIDE;
        }
        if (!island.isThere() || things.people() > MOST_TRADERS || tradesDone >= MOST_TRADES_DONE) {
            return STATE;
        }
        tradesDone++;
        trades.search(quarter);
        if (what == 0) {
            return trades.wetDoors();
        }
        return what == 1 ? trades.elsewhere() : trades.placeOf(what - FIRST_PLACE);
    }

    public int counter(int square, int weight, int what) {
        if (!island.has(square)) {
            return UNKNOWN;
        }
        if (!isWeight(weight) || (what != 0 && what != 1)) {
            return OUTSIDE;
        }
        if (!page.isWay() || !processions.firstGoesFrom(square)) {
            return STATE;
        }
        processions.search(weight);
        return what == 0 ? processions.start() : processions.wetDoors();
    }

    public int stones(int what) {
        if (what < 0 || what >= Stones.ANSWERS) {
            return OUTSIDE;
        }
        if (!island.isThere() || stonesDone >= MOST_STONES_DONE) {
            return STATE;
        }
        stonesDone++;
        stones.search();
        return stones.found(what);
    }

    public int site(int weight) {
        if (!isWeight(weight)) {
            return OUTSIDE;
        }
        return island.isThere() ? day.driestSquareFor(weight) : STATE;
    }

    public int late(int quarter, int doors, int what) {
        if (!isQuarter(quarter) || quarter == 0) {
            return UNKNOWN;
        }
        if (!island.hasAll(doors) || what < 0 || what >= Lates.ANSWERS) {
            return OUTSIDE;
        }
        if (!island.isThere()) {
            return STATE;
        }
        lates.search(quarter, doors);
        return lates.found(what);
    }

    public int storm(int quarter) {
        if (!isQuarter(quarter)) {
            return UNKNOWN;
        }
        return island.isThere() ? spots.dryMinuteOfStorm(quarter) : STATE;
    }

    public int moss() {
        return island.isThere() ? stones.wetYear() : STATE;
    }

    public int cows(int quarter, int minutes, int seed, int what) {
        if (!isQuarter(quarter)) {
            return UNKNOWN;
        }
        if (minutes < 1 || minutes > MOST_COW_MINUTES || seed < 0) {
            return OUTSIDE;
        }
        if (what != 0 && what != 1 && !asksPlace(what)) {
            return OUTSIDE;
        }
        if (!island.isThere()) {
            return STATE;
        }
        int wetMinutes = spots.stray(quarter, minutes, seed);
        if (what == 0) {
            return wetMinutes;
        }
        return what == 1 ? spots.seed() : spots.placeOf(what - FIRST_PLACE);
    }

    // ---- what is told of all

    public int image() {
        if (!island.isThere()) {
            return STATE;
        }
        things.keep();
        return things.size();
    }

    public int restore() {
        if (!things.isKept()) {
            return STATE;
        }
        things.goBack();
        return things.size();
    }

    public int count(int what) {
        switch (what) {
            case 0:
                return island.squares();
            case 1:
                return island.doors();
            case 2:
                return things.size();
            case 3:
                return things.people();
            case 4:
                return page.length();
            case 5:
                return plansRead;
            case 6:
                return tradesDone;
            case 7:
                return stonesDone;
            default:
                return OUTSIDE;
        }
    }

    public long digest() {
        long h = DIGEST_START;
        for (int square = 0; square < island.squares(); square++) {
            h = digested(h, island.height(square));
        }
        for (int thing = 0; thing < things.size(); thing++) {
            h = digestedThing(h, thing);
        }
        for (int quarter = 0; quarter < QUARTERS; quarter++) {
            h = digested(h, day.leanEast(quarter));
            h = digested(h, day.leanSouth(quarter));
            h = digested(h, day.wetIn(quarter));
        }
        if (island.isThere()) {
            h = digestedFindings(h);
        }
        for (int place = 0; place < page.length(); place++) {
            h = digested(h, page.letter(place));
        }
        for (int what = 0; what < COUNTS; what++) {
            h = digested(h, count(what));
        }
        return h;
    }

    private static long digested(long h, int number) {
        return DIGEST_FACTOR * h + number;
    }

    private long digestedThing(long before, int thing) {
        long h = digested(before, things.kind(thing));
        h = digested(h, things.weight(thing));
        h = digested(h, things.weighs(thing));
        for (int quarter = 0; quarter < QUARTERS; quarter++) {
            h = digested(h, things.place(thing, quarter));
        }
        return h;
    }

    private long digestedFindings(long before) {
        long h = digested(before, day.driestSquareFor(DIGEST_SITE));
        h = digested(h, stones.wetYear());
        lates.search(DIGEST_QUARTER, day.wetIn(DIGEST_QUARTER));
        for (int what = 0; what < Lates.ANSWERS; what++) {
            h = digested(h, lates.found(what));
        }
        return digested(h, spots.dryMinuteOfStorm(DIGEST_QUARTER));
    }

    private static boolean isQuarter(int quarter) {
        return quarter >= 0 && quarter < QUARTERS;
    }

    private static boolean isKind(int kind) {
        return kind >= 0 && kind <= FAT;
    }

    private static boolean isWeight(int weight) {
        return weight >= 1 && weight <= MOST_WEIGHT;
    }

    private static boolean asksPlace(int what) {
        return what >= FIRST_PLACE && what <= LAST_PLACE;
    }

    /** THE PAGE: the letters that have come, and what a way asks of them. */
    private static final class Page {
        private final char[] signs = new char[MOST_LETTERS];
        private int length;

        int length() {
            return length;
        }

        /** The code of a letter; 0, which no letter has, where there is none. */
        int letter(int place) {
            return place >= 0 && place < length ? signs[place] : 0;
        }

        void clear() {
            length = 0;
        }

        int add(long bytes) {
            int come = lettersTold(bytes);
            if (come == OUTSIDE) {
                return OUTSIDE;
            }
            if (length + come > MOST_LETTERS) {
                return FULL;
            }
            for (int i = 0; i < come; i++) {
                signs[length + i] = (char) codeAt(bytes, i);
            }
            length += come;
            return length;
        }

        private static int lettersTold(long bytes) {
            int told = 0;
            for (int i = 0; i < LETTERS_IN_A_LONG; i++) {
                int code = codeAt(bytes, i);
                boolean behindAnEnd = code != 0 && told < i;
                if (code > LAST_CODE || behindAnEnd) {
                    return OUTSIDE;
                }
                if (code != 0) {
                    told++;
                }
            }
            return told;
        }

        private static int codeAt(long bytes, int i) {
            return (int) ((bytes >>> (8 * i)) & 255L);
        }

        boolean isWay() {
            return length > 0 && wayFault() == length;
        }

        int wayFault() {
            for (int place = 0; place < length; place++) {
                if (place >= MOST_LETTERS_OF_A_WAY || wayAt(place) == STAY) {
                    return place;
                }
            }
            return length;
        }

        /** Which way a letter tells to go; STAY, if it tells none. */
        int wayAt(int place) {
            switch (letter(place)) {
                case 'n':
                    return UP;
                case 'e':
                    return RIGHT;
                case 's':
                    return DOWN;
                case 'w':
                    return LEFT;
                default:
                    return STAY;
            }
        }
    }

    /** Reads THE PAGE, letter by letter, as THE PLAN, as far as it goes. */
    private static final class PlanText {
        private int rows;
        private int columns;
        private int inRow;

        int rows() {
            return rows;
        }

        int columns() {
            return columns;
        }

        boolean isWhole(Page page) {
            return faultIn(page) == page.length() && rows >= FEWEST_ROWS && inRow == columns;
        }

        int faultIn(Page page) {
            rows = 1;
            columns = 0;
            inRow = 0;
            for (int place = 0; place < page.length(); place++) {
                if (!takes(page.letter(place))) {
                    return place;
                }
            }
            return page.length();
        }

        private boolean takes(int letter) {
            if (letter == '/') {
                return endsRow();
            }
            boolean isSquare = letter == '.' || (letter >= '1' && letter <= '9');
            // The first row alone is free to say how many squares all have.
            int most = rows == 1 ? MOST_COLUMNS : columns;
            if (!isSquare || inRow >= most) {
                return false;
            }
            inRow++;
            return true;
        }

        private boolean endsRow() {
            boolean isFull = rows == 1 ? inRow >= FEWEST_COLUMNS : inRow == columns;
            if (!isFull || rows >= MOST_ROWS) {
                return false;
            }
            columns = inRow;
            rows++;
            inRow = 0;
            return true;
        }
    }

    /** THE PLAN as it was read last; without one it has no squares. */
    private static final class Island {
        private final int[] heights = new int[MOST_SQUARES];
        private final int[] easts = new int[MOST_SQUARES];
        private final int[] souths = new int[MOST_SQUARES];
        private int rows;
        private int columns;
        private int squares;
        private int doors;

        void read(Page page, int rowsTold, int columnsTold) {
            rows = rowsTold;
            columns = columnsTold;
            squares = 0;
            doors = 0;
            int row = 0;
            int column = 0;
            for (int place = 0; place < page.length(); place++) {
                int letter = page.letter(place);
                if (letter == '/') {
                    row++;
                    column = 0;
                } else {
                    addSquare(letter == '.' ? 0 : letter - '0', row, column);
                    column++;
                }
            }
        }

        private void addSquare(int height, int row, int column) {
            if (squares >= MOST_SQUARES) {
                return;
            }
            heights[squares] = height;
            easts[squares] = fromCentre(column, columns);
            souths[squares] = fromCentre(row, rows);
            squares++;
            if (height > 0) {
                doors++;
            }
        }

        private static int fromCentre(int index, int many) {
            return 2 * index - (many - 1);
        }

        boolean isThere() {
            return squares > 0;
        }

        int squares() {
            return squares;
        }

        int doors() {
            return doors;
        }

        boolean has(int square) {
            return square >= 0 && square < squares;
        }

        /** Whether all bits tell squares. */
        boolean hasAll(int bits) {
            return bits >= 0 && (bits >>> squares) == 0;
        }

        int height(int square) {
            return has(square) ? heights[square] : 0;
        }

        int east(int square) {
            return has(square) ? easts[square] : 0;
        }

        int south(int square) {
            return has(square) ? souths[square] : 0;
        }

        int dipOf(int square, int leanEast, int leanSouth) {
            return has(square) ? leanEast * easts[square] + leanSouth * souths[square] : 0;
        }

        /** Which squares have wet doors, as bits. */
        int wetDoors(int leanEast, int leanSouth) {
            int bits = 0;
            for (int square = 0; square < squares; square++) {
                int height = heights[square];
                int dip = leanEast * easts[square] + leanSouth * souths[square];
                if (height > 0 && dip >= DIP_BY_HEIGHT * height) {
                    bits |= 1 << square;
                }
            }
            return bits;
        }

        int wetDoorsTold(int leanEast, int leanSouth) {
            return Integer.bitCount(wetDoors(leanEast, leanSouth));
        }

        /** The square a step away; NONE, where there is none. */
        int step(int square, int way) {
            if (!has(square)) {
                return NONE;
            }
            switch (way) {
                case UP:
                    return square - columns >= 0 ? square - columns : NONE;
                case RIGHT:
                    return easts[square] < columns - 1 ? square + 1 : NONE;
                case DOWN:
                    return square + columns < squares ? square + columns : NONE;
                case LEFT:
                    return easts[square] > 1 - columns ? square - 1 : NONE;
                default:
                    return square;
            }
        }

        /** The square to which a person goes in a minute of a storm. */
        int towardsMiddle(int square) {
            int toSouth = fromCentre(rows / 2, rows) - south(square);
            int toEast = fromCentre(columns / 2, columns) - east(square);
            if (toSouth != 0) {
                return step(square, toSouth < 0 ? UP : DOWN);
            }
            if (toEast != 0) {
                return step(square, toEast < 0 ? LEFT : RIGHT);
            }
            return square;
        }
    }

    /** All things, where they stand in each quarter, and the image of that. */
    private static final class Things {
        private final int[] kinds = new int[MOST_THINGS];
        private final int[] weights = new int[MOST_THINGS];
        private final int[] places = new int[MOST_THINGS * QUARTERS];
        private final int[] keptPlaces = new int[MOST_THINGS * QUARTERS];
        private int size;
        private int keptSize = NONE;

        void clear() {
            size = 0;
            keptSize = NONE;
        }

        int size() {
            return size;
        }

        boolean has(int thing) {
            return thing >= 0 && thing < size;
        }

        int add(int kind, int weight, int square) {
            if (size >= MOST_THINGS) {
                return FULL;
            }
            int thing = size;
            kinds[thing] = kind;
            weights[thing] = weight;
            size++;
            moveAllDay(thing, square);
            return thing;
        }

        int kind(int thing) {
            return has(thing) ? kinds[thing] : NONE;
        }

        int weight(int thing) {
            return has(thing) ? weights[thing] : 0;
        }

        int weighs(int thing) {
            if (!has(thing)) {
                return 0;
            }
            return kinds[thing] == FAT ? 2 * weights[thing] : weights[thing];
        }

        boolean isA(int thing, int asked) {
            int kind = kind(thing);
            return kind == asked || asked == 0 || (asked == PERSON && kind == FAT);
        }

        int people() {
            return Integer.bitCount(peopleBits());
        }

        int peopleBits() {
            int bits = 0;
            for (int thing = 0; thing < size; thing++) {
                if (isA(thing, PERSON)) {
                    bits |= 1 << thing;
                }
            }
            return bits;
        }

        int place(int thing, int quarter) {
            return has(thing) && isQuarter(quarter) ? places[thing * QUARTERS + quarter] : NONE;
        }

        void move(int thing, int quarter, int square) {
            if (has(thing) && isQuarter(quarter)) {
                places[thing * QUARTERS + quarter] = square;
            }
        }

        void moveAllDay(int thing, int square) {
            for (int quarter = 0; quarter < QUARTERS; quarter++) {
                move(thing, quarter, square);
            }
        }

        void keep() {
            System.arraycopy(places, 0, keptPlaces, 0, MOST_THINGS * QUARTERS);
            keptSize = size;
        }

        boolean isKept() {
            return keptSize != NONE;
        }

        /** Kinds and weights never change, so the places alone are put back. */
        void goBack() {
            System.arraycopy(keptPlaces, 0, places, 0, MOST_THINGS * QUARTERS);
            size = keptSize;
        }
    }

    /** How far the island leans in each quarter, and what weights that come to it all day change. */
    private static final class Day {
        private final Island island;
        private final Things things;
        private final int[] easts = new int[QUARTERS];
        private final int[] souths = new int[QUARTERS];

        Day(Island island, Things things) {
            this.island = island;
            this.things = things;
        }

        int leanEast(int quarter) {
            int lean = 0;
            for (int thing = 0; thing < things.size(); thing++) {
                lean += things.weighs(thing) * island.east(things.place(thing, quarter));
            }
            return lean;
        }

        int leanSouth(int quarter) {
            int lean = 0;
            for (int thing = 0; thing < things.size(); thing++) {
                lean += things.weighs(thing) * island.south(things.place(thing, quarter));
            }
            return lean;
        }

        int wetIn(int quarter) {
            return island.wetDoors(leanEast(quarter), leanSouth(quarter));
        }

        /** Keeps the leans of all quarters for the calls of wetDoorsWith and greatestDip. */
        void weigh() {
            for (int quarter = 0; quarter < QUARTERS; quarter++) {
                easts[quarter] = leanEast(quarter);
                souths[quarter] = leanSouth(quarter);
            }
        }

        int wetDoorsWith(int quarter, int moreEast, int moreSouth) {
            if (!isQuarter(quarter)) {
                return 0;
            }
            return island.wetDoorsTold(easts[quarter] + moreEast, souths[quarter] + moreSouth);
        }

        int greatestDip(int square) {
            int greatest = island.dipOf(square, easts[0], souths[0]);
            for (int quarter = 1; quarter < QUARTERS; quarter++) {
                greatest = Math.max(greatest, island.dipOf(square, easts[quarter], souths[quarter]));
            }
            return greatest;
        }

        int driestSquareFor(int weight) {
            weigh();
            int best = NONE;
            int fewest = 0;
            for (int square = 0; square < island.squares(); square++) {
                int wet = wetDoorsAllDayWith(weight * island.east(square), weight * island.south(square));
                if (best == NONE || wet < fewest) {
                    best = square;
                    fewest = wet;
                }
            }
            return best;
        }

        private int wetDoorsAllDayWith(int moreEast, int moreSouth) {
            int wet = 0;
            for (int quarter = 0; quarter < QUARTERS; quarter++) {
                wet += wetDoorsWith(quarter, moreEast, moreSouth);
            }
            return wet;
        }
    }

    /** COUNTER: a procession by THE PAGE, and the search for one the opposite way. */
    private static final class Processions {
        private final Page page;
        private final Island island;
        private final Day day;
        private final int[] first = new int[QUARTERS];
        private final int[] second = new int[QUARTERS];
        private int start;
        private int wetDoors;

        Processions(Page page, Island island, Day day) {
            this.page = page;
            this.island = island;
            this.day = day;
        }

        int start() {
            return start;
        }

        int wetDoors() {
            return wetDoors;
        }

        /** Whether it stays on the island; to be asked ahead of search. */
        boolean firstGoesFrom(int square) {
            int at = square;
            for (int quarter = 0; quarter < QUARTERS; quarter++) {
                at = quarter == 0 ? at : island.step(at, page.wayAt(quarter - 1));
                if (at == NONE) {
                    return false;
                }
                first[quarter] = at;
            }
            return true;
        }

        private boolean secondGoesFrom(int square) {
            int at = square;
            for (int quarter = 0; quarter < QUARTERS; quarter++) {
                at = quarter == 0 ? at : island.step(at, turnedRound(page.wayAt(quarter - 1)));
                if (at == NONE) {
                    return false;
                }
                second[quarter] = at;
            }
            return true;
        }

        private static int turnedRound(int way) {
            switch (way) {
                case UP:
                    return DOWN;
                case RIGHT:
                    return LEFT;
                case DOWN:
                    return UP;
                case LEFT:
                    return RIGHT;
                default:
                    return STAY;
            }
        }

        void search(int weight) {
            day.weigh();
            start = NONE;
            wetDoors = 0;
            for (int square = 0; square < island.squares(); square++) {
                if (secondGoesFrom(square)) {
                    int wet = wetDoorsWithBoth(weight);
                    if (start == NONE || wet < wetDoors) {
                        start = square;
                        wetDoors = wet;
                    }
                }
            }
        }

        private int wetDoorsWithBoth(int weight) {
            int wet = 0;
            for (int quarter = 0; quarter < QUARTERS; quarter++) {
                int one = first[quarter];
                int other = second[quarter];
                int moreEast = weight * (island.east(one) + island.east(other));
                int moreSouth = weight * (island.south(one) + island.south(other));
                wet += day.wetDoorsWith(quarter, moreEast, moreSouth);
            }
            return wet;
        }
    }

    /** TRADES: the search for who takes whose square. */
    private static final class Trades {
        private final Island island;
        private final Things things;
        private final Day day;
        private final int[] people = new int[MOST_TRADERS];
        private final int[] squares = new int[MOST_TRADERS];
        private final int[] taken = new int[MOST_TRADERS];
        private final int[] best = new int[MOST_TRADERS];
        private int size;
        private boolean anyFound;
        private int wetDoors;
        private int elsewhere;

        Trades(Island island, Things things, Day day) {
            this.island = island;
            this.things = things;
            this.day = day;
        }

        int wetDoors() {
            return wetDoors;
        }

        int elsewhere() {
            return elsewhere;
        }

        int placeOf(int thing) {
            for (int i = 0; i < size; i++) {
                if (people[i] == thing) {
                    return best[i];
                }
            }
            return NONE;
        }

        void search(int quarter) {
            size = 0;
            anyFound = false;
            int east = day.leanEast(quarter);
            int south = day.leanSouth(quarter);
            for (int thing = 0; thing < things.size(); thing++) {
                if (things.isA(thing, PERSON) && size < MOST_TRADERS) {
                    people[size] = thing;
                    squares[size] = things.place(thing, quarter);
                    east -= things.weighs(thing) * island.east(squares[size]);
                    south -= things.weighs(thing) * island.south(squares[size]);
                    size++;
                }
            }
            takeSquares(0, 0, east, south, 0);
        }

        /**
         * Lets the next person take each square that is left, in the order of
         * whose it is, so that of like ones the first is met first.
         */
        private void takeSquares(int person, int gone, int east, int south, int moved) {
            if (person >= size || person >= MOST_TRADERS) {
                judge(east, south, moved);
                return;
            }
            for (int whose = 0; whose < size; whose++) {
                if ((gone & (1 << whose)) == 0) {
                    takeSquareOf(whose, person, gone, east, south, moved);
                }
            }
        }

        private void takeSquareOf(int whose, int person, int gone, int east, int south, int moved) {
            int square = squares[whose];
            int weighs = things.weighs(people[person]);
            taken[person] = square;
            takeSquares(person + 1, gone | (1 << whose),
                    east + weighs * island.east(square),
                    south + weighs * island.south(square),
                    square == squares[person] ? moved : moved + 1);
        }

        private void judge(int east, int south, int moved) {
            int wet = island.wetDoorsTold(east, south);
            boolean isBetter = wet < wetDoors || (wet == wetDoors && moved < elsewhere);
            if (anyFound && !isBetter) {
                return;
            }
            anyFound = true;
            wetDoors = wet;
            elsewhere = moved;
            System.arraycopy(taken, 0, best, 0, MOST_TRADERS);
        }
    }

    /** STONES and MOSS. Stones stand all day, so what they change is the same in all quarters. */
    private static final class Stones {
        static final int ANSWERS = 5;
        // More than any change of the stones can dip a square: a field is never wet.
        private static final int NEVER = 1000000;

        private final Island island;
        private final Things things;
        private final Day day;
        private final int[] found = new int[ANSWERS];
        private final int[] rooms = new int[MOST_SQUARES];
        private int lastWet;

        Stones(Island island, Things things, Day day) {
            this.island = island;
            this.things = things;
            this.day = day;
        }

        int found(int what) {
            return what >= 0 && what < ANSWERS ? found[what] : NONE;
        }

        void search() {
            day.weigh();
            measureRooms();
            for (int what = 0; what < ANSWERS; what++) {
                found[what] = NONE;
            }
            for (int few = 0; few <= MOST_STONES_MOVED; few++) {
                if (movesKeepDry(few, 0, 0, 0, 0)) {
                    found[0] = few;
                    return;
                }
            }
        }

        /**
         * Whether as many stones as are still to be moved, none numbered below
         * the least, can be moved so that all doors are dry.
         */
        private boolean movesKeepDry(int few, int moved, int least, int east, int south) {
            if (moved >= few) {
                return isDryWith(east, south);
            }
            for (int thing = least; thing < things.size(); thing++) {
                if (things.isA(thing, STONE)
                        && moveOfKeepsDry(thing, few, moved, east, south)) {
                    return true;
                }
            }
            return false;
        }

        private boolean moveOfKeepsDry(int stone, int few, int moved, int east, int south) {
            int own = things.place(stone, 0);
            int weighs = things.weighs(stone);
            int eastWithout = east - weighs * island.east(own);
            int southWithout = south - weighs * island.south(own);
            for (int square = 0; square < island.squares(); square++) {
                if (square != own && movesKeepDry(few, moved + 1, stone + 1,
                        eastWithout + weighs * island.east(square),
                        southWithout + weighs * island.south(square))) {
                    keepMove(moved, stone, square);
                    return true;
                }
            }
            return false;
        }

        private void keepMove(int moved, int stone, int square) {
            int slot = 1 + 2 * moved;
            if (slot >= 1 && slot + 1 < ANSWERS) {
                found[slot] = stone;
                found[slot + 1] = square;
            }
        }

        /** Behind how many years some door is wet first; NONE, if behind none of them. */
        int wetYear() {
            day.weigh();
            measureRooms();
            int east = 0;
            int south = 0;
            for (int thing = 0; thing < things.size(); thing++) {
                if (things.isA(thing, STONE)) {
                    east += island.east(things.place(thing, 0));
                    south += island.south(things.place(thing, 0));
                }
            }
            for (int year = 0; year <= MOST_YEARS; year++) {
                if (!isDryWith(year * east, year * south)) {
                    return year;
                }
            }
            return NONE;
        }

        /** How much more each door may dip, in the quarter in which it dips most, till it is wet. */
        private void measureRooms() {
            lastWet = 0;
            for (int square = 0; square < MOST_SQUARES; square++) {
                int height = island.height(square);
                rooms[square] = height == 0 ? NEVER
                        : DIP_BY_HEIGHT * height - day.greatestDip(square);
            }
        }

        private boolean isDryWith(int moreEast, int moreSouth) {
            // Moves that are near in the search mostly wet the same door, so it is asked first.
            if (isWetWith(lastWet, moreEast, moreSouth)) {
                return false;
            }
            for (int square = 0; square < island.squares(); square++) {
                if (isWetWith(square, moreEast, moreSouth)) {
                    lastWet = square;
                    return false;
                }
            }
            return true;
        }

        private boolean isWetWith(int square, int moreEast, int moreSouth) {
            return island.has(square)
                    && island.dipOf(square, moreEast, moreSouth) >= rooms[square];
        }
    }

    /** LATE: the search for all sets of people who could still have been where they were. */
    private static final class Lates {
        static final int ANSWERS = 3;

        private final Island island;
        private final Things things;
        private final Day day;
        private final int[] found = new int[ANSWERS];
        private final int[] easts = new int[MOST_THINGS];
        private final int[] souths = new int[MOST_THINGS];

        Lates(Island island, Things things, Day day) {
            this.island = island;
            this.things = things;
            this.day = day;
        }

        int found(int what) {
            return what >= 0 && what < ANSWERS ? found[what] : NONE;
        }

        void search(int quarter, int doors) {
            measureChanges(quarter);
            int people = things.peopleBits();
            int east = day.leanEast(quarter);
            int south = day.leanSouth(quarter);
            int sets = 0;
            int inAll = people;
            int inSome = 0;
            for (int set = 0; set <= people; set++) {
                if ((set & ~people) == 0 && wetDoorsIfLate(set, east, south) == doors) {
                    sets++;
                    inAll &= set;
                    inSome |= set;
                }
            }
            found[0] = sets;
            found[1] = sets == 0 ? 0 : inAll;
            found[2] = inSome;
        }

        /** What each one changes by still being where it was in the quarter ahead. */
        private void measureChanges(int quarter) {
            for (int thing = 0; thing < MOST_THINGS; thing++) {
                int now = things.place(thing, quarter);
                int was = things.place(thing, quarter - 1);
                int weighs = things.weighs(thing);
                easts[thing] = weighs * (island.east(was) - island.east(now));
                souths[thing] = weighs * (island.south(was) - island.south(now));
            }
        }

        private int wetDoorsIfLate(int set, int east, int south) {
            int leanEast = east;
            int leanSouth = south;
            for (int thing = 0; thing < MOST_THINGS; thing++) {
                if ((set & (1 << thing)) != 0) {
                    leanEast += easts[thing];
                    leanSouth += souths[thing];
                }
            }
            return island.wetDoors(leanEast, leanSouth);
        }
    }

    /** STORM and COWS: where all would stand, minute by minute, from a quarter on. */
    private static final class Spots {
        private static final long SEED_FACTOR = 1103515245L;
        private static final long SEED_MORE = 12345L;
        // The rest by 2 to the 31, by its bits.
        private static final long SEED_BITS = 0x7FFFFFFFL;
        private static final long DRAW_DIVISOR = 65536L;

        private final Island island;
        private final Things things;
        private final int[] squares = new int[MOST_THINGS];
        private long seed;

        Spots(Island island, Things things) {
            this.island = island;
            this.things = things;
        }

        int placeOf(int thing) {
            return things.has(thing) && thing < MOST_THINGS ? squares[thing] : NONE;
        }

        int seed() {
            return (int) seed;
        }

        private void standAsIn(int quarter) {
            for (int thing = 0; thing < MOST_THINGS; thing++) {
                squares[thing] = things.place(thing, quarter);
            }
        }

        private boolean isSomeDoorWet() {
            int east = 0;
            int south = 0;
            for (int thing = 0; thing < MOST_THINGS; thing++) {
                east += things.weighs(thing) * island.east(squares[thing]);
                south += things.weighs(thing) * island.south(squares[thing]);
            }
            return island.wetDoors(east, south) != 0;
        }

        int dryMinuteOfStorm(int quarter) {
            standAsIn(quarter);
            for (int minute = 0; minute <= MOST_STORM_MINUTES; minute++) {
                if (!isSomeDoorWet()) {
                    return minute;
                }
                peopleGoToMiddle();
            }
            return NONE;
        }

        private void peopleGoToMiddle() {
            for (int thing = 0; thing < MOST_THINGS; thing++) {
                if (things.isA(thing, PERSON)) {
                    squares[thing] = island.towardsMiddle(squares[thing]);
                }
            }
        }

        /** Behind how many of the minutes some door is wet. */
        int stray(int quarter, int minutes, int firstSeed) {
            standAsIn(quarter);
            seed = firstSeed;
            int wetMinutes = 0;
            for (int minute = 0; minute < minutes; minute++) {
                cowsGoAstray();
                if (isSomeDoorWet()) {
                    wetMinutes++;
                }
            }
            return wetMinutes;
        }

        private void cowsGoAstray() {
            for (int thing = 0; thing < MOST_THINGS; thing++) {
                if (things.isA(thing, COW)) {
                    int to = island.step(squares[thing], drawOfACow());
                    squares[thing] = to == NONE ? squares[thing] : to;
                }
            }
        }

        private int drawOfACow() {
            seed = (SEED_FACTOR * seed + SEED_MORE) & SEED_BITS;
            return (int) (seed / DRAW_DIVISOR % DRAWS_OF_A_COW);
        }
    }
}
