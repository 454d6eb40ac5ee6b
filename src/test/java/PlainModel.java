import java.util.ArrayList;
import java.util.Arrays;
import java.util.List;

/**
 * The document said again in the plainest way, slowly and with the Java library,
 * to compare the program with. It looks at whole placements one by one and keeps
 * nothing between calls but the state that the document names.
 */
final class PlainModel {
    private static final int NONE = -1, UNKNOWN = -101, OUTSIDE = -102, STATE = -103, FULL = -104;

    /** A thing: kind, weight, and its square in each quarter. */
    private static final class Thing {
        final int kind;
        final int weight;
        final int[] at = new int[8];

        Thing(int kind, int weight, int square) {
            this.kind = kind;
            this.weight = weight;
            Arrays.fill(at, square);
        }

        boolean isPerson() {
            return kind == 3 || kind == 4;
        }

        int weighs() {
            return kind == 4 ? weight + weight : weight;
        }
    }

    private String page = "";
    private String[] rows = new String[0];
    private final List<Thing> things = new ArrayList<>();
    private List<int[]> image = null;
    private int plans = 0;
    private int tradesDone = 0;
    private int stonesDone = 0;

    private int columns() {
        return rows.length == 0 ? 0 : rows[0].length();
    }

    private int squares() {
        return rows.length * columns();
    }

    private int height(int square) {
        char sign = rows[square / columns()].charAt(square % columns());
        return sign == '.' ? 0 : Character.digit(sign, 10);
    }

    private int east(int square) {
        return 2 * (square % columns()) - columns() + 1;
    }

    private int south(int square) {
        return 2 * (square / columns()) - rows.length + 1;
    }

    /** The sum of what all weigh times how far they are, where thing i stands in at[i]. */
    private int lean(int[] weighs, int[] at, boolean toEast) {
        int sum = 0;
        for (int i = 0; i < at.length; i++) {
            sum += weighs[i] * (toEast ? east(at[i]) : south(at[i]));
        }
        return sum;
    }

    private List<Integer> wetDoors(int[] weighs, int[] at) {
        List<Integer> wet = new ArrayList<>();
        for (int square = 0; square < squares(); square++) {
            int dip = lean(weighs, at, true) * east(square) + lean(weighs, at, false) * south(square);
            if (height(square) != 0 && dip >= 50 * height(square)) {
                wet.add(square);
            }
        }
        return wet;
    }

    private int[] weighs() {
        return things.stream().mapToInt(Thing::weighs).toArray();
    }

    private int[] at(int quarter) {
        return things.stream().mapToInt(t -> t.at[quarter]).toArray();
    }

    private static int[] with(int[] numbers, int... more) {
        int[] all = Arrays.copyOf(numbers, numbers.length + more.length);
        System.arraycopy(more, 0, all, numbers.length, more.length);
        return all;
    }

    private static int bits(List<Integer> numbers) {
        return numbers.stream().mapToInt(n -> 1 << n).sum();
    }

    private boolean noThing(int thing) {
        return thing < 0 || thing >= things.size();
    }

    private boolean noSquare(int square) {
        return square < 0 || square >= squares();
    }

    private static boolean noQuarter(int quarter) {
        return quarter < 0 || quarter > 7;
    }

    private static boolean noWeight(int weight) {
        return weight < 1 || weight > 99;
    }

    private static boolean isPlaceOf(int what) {
        return what >= 10 && what <= 17;
    }

    int letters(long w) {
        StringBuilder come = new StringBuilder();
        boolean ended = false;
        for (int i = 0; i < 64; i += 8) {
            int code = (int) (w >> i & 0xFF);
            if (code > 126 || (ended && code > 0)) {
                return OUTSIDE;
            }
            if (code == 0) {
                ended = true;
            } else {
                come.append((char) code);
            }
        }
        if (page.length() + come.length() > 40) {
            return FULL;
        }
        page += come;
        return page.length();
    }

    int blank() {
        int had = page.length();
        page = "";
        return had;
    }

    private static boolean beginsAPlan(String text) {
        for (int many = 2; many <= 6; many++) {
            String row = "#".repeat(many);
            String all = row + ("/" + row).repeat(4);
            if (fits(text, all)) {
                return true;
            }
        }
        return false;
    }

    private static boolean fits(String text, String all) {
        if (text.length() > all.length()) {
            return false;
        }
        for (int i = 0; i < text.length(); i++) {
            boolean isSquare = ".123456789".indexOf(text.charAt(i)) >= 0;
            if (all.charAt(i) == '#' ? !isSquare : text.charAt(i) != '/') {
                return false;
            }
        }
        return true;
    }

    int fault(int sort) {
        if (sort != 0 && sort != 1) {
            return OUTSIDE;
        }
        int place = 0;
        while (place < page.length()) {
            String begun = page.substring(0, place + 1);
            if (sort == 0 ? !beginsAPlan(begun) : !begun.matches("[nesw]{1,7}")) {
                return place;
            }
            place++;
        }
        return place;
    }

    int plan() {
        boolean isPlan = false;
        for (int many = 2; many <= 6; many++) {
            isPlan |= page.matches("[.1-9]{" + many + "}(/[.1-9]{" + many + "}){1,4}");
        }
        if (!isPlan) {
            return STATE;
        }
        rows = page.split("/");
        page = "";
        things.clear();
        image = null;
        plans++;
        return squares();
    }

    int square(int square, int what) {
        if (noSquare(square)) {
            return -100101;
        }
        return what == 0 ? height(square) : what == 1 ? east(square) : what == 2 ? south(square) : -100102;
    }

    int thing(int kind, int weight, int square) {
        if (kind < 0 || kind > 4 || noWeight(weight)) {
            return OUTSIDE;
        }
        if (noSquare(square)) {
            return UNKNOWN;
        }
        if (things.size() == 8) {
            return FULL;
        }
        things.add(new Thing(kind, weight, square));
        return things.size() - 1;
    }

    int about(int thing, int what) {
        if (noThing(thing)) {
            return UNKNOWN;
        }
        Thing t = things.get(thing);
        if (isPlaceOf(what)) {
            return t.at[what - 10];
        }
        return what == 0 ? t.kind : what == 1 ? t.weight : what == 2 ? t.weighs() : OUTSIDE;
    }

    int as(int thing, int kind) {
        if (noThing(thing)) {
            return UNKNOWN;
        }
        if (kind < 0 || kind > 4) {
            return OUTSIDE;
        }
        Thing t = things.get(thing);
        return kind == 0 || t.kind == kind || (kind == 3 && t.isPerson()) ? thing : NONE;
    }

    int stand(int thing, int quarter, int square) {
        if (noThing(thing) || noQuarter(quarter) || noSquare(square)) {
            return UNKNOWN;
        }
        Thing t = things.get(thing);
        if (!t.isPerson()) {
            return STATE;
        }
        int stood = t.at[quarter];
        t.at[quarter] = square;
        return stood;
    }

    int put(int thing, int square) {
        if (noThing(thing) || noSquare(square)) {
            return UNKNOWN;
        }
        Thing t = things.get(thing);
        if (t.isPerson()) {
            return STATE;
        }
        int was = t.at[0];
        Arrays.fill(t.at, square);
        return was;
    }

    int trade(int a, int b, int quarter) {
        if (noThing(a) || noThing(b) || noQuarter(quarter)) {
            return UNKNOWN;
        }
        Thing one = things.get(a);
        Thing other = things.get(b);
        if (!one.isPerson() || !other.isPerson()) {
            return STATE;
        }
        int square = one.at[quarter];
        one.at[quarter] = other.at[quarter];
        other.at[quarter] = square;
        return one.at[quarter] != other.at[quarter] ? 1 : 0;
    }

    int leans(int quarter, int way) {
        if (noQuarter(quarter)) {
            return -100101;
        }
        return way == 0 || way == 1 ? lean(weighs(), at(quarter), way == 0) : -100102;
    }

    int dip(int square, int quarter) {
        if (noSquare(square) || noQuarter(quarter)) {
            return -1000101;
        }
        return leans(quarter, 0) * east(square) + leans(quarter, 1) * south(square);
    }

    int wet(int quarter) {
        return noQuarter(quarter) ? UNKNOWN : bits(wetDoors(weighs(), at(quarter)));
    }

    private List<Integer> people() {
        List<Integer> people = new ArrayList<>();
        for (int i = 0; i < things.size(); i++) {
            if (things.get(i).isPerson()) {
                people.add(i);
            }
        }
        return people;
    }

    /** All orders of the numbers 0 to many - 1, the first first. */
    private static List<List<Integer>> orders(int many) {
        List<List<Integer>> all = new ArrayList<>();
        all.add(new ArrayList<>());
        for (int length = 0; length < many; length++) {
            List<List<Integer>> longer = new ArrayList<>();
            for (List<Integer> order : all) {
                for (int next = 0; next < many; next++) {
                    if (!order.contains(next)) {
                        List<Integer> more = new ArrayList<>(order);
                        more.add(next);
                        longer.add(more);
                    }
                }
            }
            all = longer;
        }
        return all;
    }

    int trades(int quarter, int what) {
        if (noQuarter(quarter)) {
            return UNKNOWN;
        }
        if (what != 0 && what != 1 && !isPlaceOf(what)) {
            return OUTSIDE;
        }
        List<Integer> people = people();
        if (squares() == 0 || people.size() > 6 || tradesDone == 30) {
            return STATE;
        }
        tradesDone++;
        int least = Integer.MAX_VALUE;
        int[] now = at(quarter);
        int[] best = now;
        for (List<Integer> order : orders(people.size())) {
            int[] then = now.clone();
            int moved = 0;
            for (int i = 0; i < people.size(); i++) {
                then[people.get(i)] = now[people.get(order.get(i))];
                moved += then[people.get(i)] == now[people.get(i)] ? 0 : 1;
            }
            int rank = 100 * wetDoors(weighs(), then).size() + moved;
            if (rank < least) {
                least = rank;
                best = then;
            }
        }
        if (what < 2) {
            return what == 0 ? least / 100 : least % 100;
        }
        return people.contains(what - 10) ? best[what - 10] : NONE;
    }

    /** The squares of a procession in each quarter; null, if it leaves the island. */
    private int[] procession(int square, boolean turned) {
        int row = square / columns();
        int column = square % columns();
        int[] way = new int[8];
        way[0] = square;
        for (int quarter = 1; quarter < 8; quarter++) {
            if (quarter <= page.length()) {
                int sense = turned ? -1 : 1;
                char letter = page.charAt(quarter - 1);
                row += sense * (letter == 'n' ? -1 : letter == 's' ? 1 : 0);
                column += sense * (letter == 'w' ? -1 : letter == 'e' ? 1 : 0);
            }
            if (row < 0 || row >= rows.length || column < 0 || column >= columns()) {
                return null;
            }
            way[quarter] = row * columns() + column;
        }
        return way;
    }

    int counter(int square, int weight, int what) {
        if (noSquare(square)) {
            return UNKNOWN;
        }
        if (noWeight(weight) || what < 0 || what > 1) {
            return OUTSIDE;
        }
        if (!page.matches("[nesw]{1,7}") || procession(square, false) == null) {
            return STATE;
        }
        int[] first = procession(square, false);
        int best = NONE;
        int least = Integer.MAX_VALUE;
        for (int start = squares() - 1; start >= 0; start--) {
            int[] second = procession(start, true);
            if (second == null) {
                continue;
            }
            int wet = 0;
            for (int quarter = 0; quarter < 8; quarter++) {
                int[] all = with(at(quarter), first[quarter], second[quarter]);
                wet += wetDoors(with(weighs(), weight, weight), all).size();
            }
            if (wet <= least) {
                least = wet;
                best = start;
            }
        }
        return what == 0 ? best : least;
    }

    private boolean isDryAllDay(int... moves) {
        for (int quarter = 0; quarter < 8; quarter++) {
            int[] all = at(quarter);
            for (int i = 0; i < moves.length; i += 2) {
                all[moves[i]] = moves[i + 1];
            }
            if (!wetDoors(weighs(), all).isEmpty()) {
                return false;
            }
        }
        return true;
    }

    private boolean mayMove(int thing, int square) {
        return things.get(thing).kind == 1 && things.get(thing).at[0] != square;
    }

    private int[] stonesFound() {
        if (isDryAllDay()) {
            return new int[] {0, NONE, NONE, NONE, NONE};
        }
        for (int a = 0; a < things.size(); a++) {
            for (int to = 0; to < squares(); to++) {
                if (mayMove(a, to) && isDryAllDay(a, to)) {
                    return new int[] {1, a, to, NONE, NONE};
                }
            }
        }
        for (int a = 0; a < things.size(); a++) {
            for (int to = 0; to < squares(); to++) {
                for (int b = a + 1; b < things.size() && mayMove(a, to); b++) {
                    for (int other = 0; other < squares(); other++) {
                        if (mayMove(b, other) && isDryAllDay(a, to, b, other)) {
                            return new int[] {2, a, to, b, other};
                        }
                    }
                }
            }
        }
        return new int[] {NONE, NONE, NONE, NONE, NONE};
    }

    int stones(int what) {
        if (what < 0 || what > 4) {
            return OUTSIDE;
        }
        if (squares() == 0 || stonesDone == 20) {
            return STATE;
        }
        stonesDone++;
        return stonesFound()[what];
    }

    int site(int weight) {
        if (noWeight(weight)) {
            return OUTSIDE;
        }
        if (squares() == 0) {
            return STATE;
        }
        int best = NONE;
        int least = Integer.MAX_VALUE;
        for (int square = squares() - 1; square >= 0; square--) {
            int wet = 0;
            for (int quarter = 0; quarter < 8; quarter++) {
                wet += wetDoors(with(weighs(), weight), with(at(quarter), square)).size();
            }
            if (wet <= least) {
                least = wet;
                best = square;
            }
        }
        return best;
    }

    int late(int quarter, int doors, int what) {
        if (quarter < 1 || quarter > 7) {
            return UNKNOWN;
        }
        if (doors < 0 || doors >= 1L << squares() || what < 0 || what > 2) {
            return OUTSIDE;
        }
        if (squares() == 0) {
            return STATE;
        }
        List<Integer> sets = new ArrayList<>();
        for (int set = 0; set < 1 << things.size(); set++) {
            int[] all = at(quarter);
            boolean ofPeople = true;
            for (int i = 0; i < things.size(); i++) {
                if ((set >> i) % 2 == 1) {
                    all[i] = at(quarter - 1)[i];
                    ofPeople &= things.get(i).isPerson();
                }
            }
            if (ofPeople && bits(wetDoors(weighs(), all)) == doors) {
                sets.add(set);
            }
        }
        if (what == 0) {
            return sets.size();
        }
        return sets.stream().reduce((a, b) -> what == 1 ? a & b : a | b).orElse(0);
    }

    int storm(int quarter) {
        if (noQuarter(quarter)) {
            return UNKNOWN;
        }
        if (squares() == 0) {
            return STATE;
        }
        int[] all = at(quarter);
        for (int minute = 0; minute < 10; minute++) {
            if (wetDoors(weighs(), all).isEmpty()) {
                return minute;
            }
            for (int i : people()) {
                int row = all[i] / columns();
                int column = all[i] % columns();
                if (row != rows.length / 2) {
                    row += Integer.signum(rows.length / 2 - row);
                } else {
                    column += Integer.signum(columns() / 2 - column);
                }
                all[i] = row * columns() + column;
            }
        }
        return NONE;
    }

    int moss() {
        if (squares() == 0) {
            return STATE;
        }
        for (int year = 0; year < 100; year++) {
            int[] weighs = weighs();
            for (int i = 0; i < weighs.length; i++) {
                weighs[i] += things.get(i).kind == 1 ? year : 0;
            }
            for (int quarter = 0; quarter < 8; quarter++) {
                if (!wetDoors(weighs, at(quarter)).isEmpty()) {
                    return year;
                }
            }
        }
        return NONE;
    }

    int cows(int quarter, int minutes, int seed, int what) {
        if (noQuarter(quarter)) {
            return UNKNOWN;
        }
        if (minutes < 1 || minutes > 60 || seed < 0 || (what != 0 && what != 1 && !isPlaceOf(what))) {
            return OUTSIDE;
        }
        if (squares() == 0) {
            return STATE;
        }
        int[] all = at(quarter);
        long s = seed;
        int wet = 0;
        for (int minute = 1; minute <= minutes; minute++) {
            for (int i = 0; i < all.length; i++) {
                if (things.get(i).kind == 2) {
                    s = (1103515245L * s + 12345L) % (1L << 31);
                    int draw = (int) (s / 65536 % 5);
                    int row = all[i] / columns() + (draw == 1 ? -1 : draw == 3 ? 1 : 0);
                    int column = all[i] % columns() + (draw == 4 ? -1 : draw == 2 ? 1 : 0);
                    if (row >= 0 && row < rows.length && column >= 0 && column < columns()) {
                        all[i] = row * columns() + column;
                    }
                }
            }
            wet += wetDoors(weighs(), all).isEmpty() ? 0 : 1;
        }
        if (what < 2) {
            return what == 0 ? wet : (int) s;
        }
        return noThing(what - 10) ? NONE : all[what - 10];
    }

    int image() {
        if (squares() == 0) {
            return STATE;
        }
        image = new ArrayList<>();
        for (Thing t : things) {
            image.add(t.at.clone());
        }
        return image.size();
    }

    int restore() {
        if (image == null) {
            return STATE;
        }
        while (things.size() > image.size()) {
            things.remove(things.size() - 1);
        }
        for (int i = 0; i < things.size(); i++) {
            System.arraycopy(image.get(i), 0, things.get(i).at, 0, 8);
        }
        return things.size();
    }

    int count(int what) {
        int doors = 0;
        for (int square = 0; square < squares(); square++) {
            doors += height(square) > 0 ? 1 : 0;
        }
        int[] counts = {squares(), doors, things.size(), people().size(), page.length(), plans,
            tradesDone, stonesDone};
        return what < 0 || what >= counts.length ? OUTSIDE : counts[what];
    }

    long digest() {
        List<Integer> numbers = new ArrayList<>();
        for (int square = 0; square < squares(); square++) {
            numbers.add(height(square));
        }
        for (int thing = 0; thing < things.size(); thing++) {
            for (int what : new int[] {0, 1, 2, 10, 11, 12, 13, 14, 15, 16, 17}) {
                numbers.add(about(thing, what));
            }
        }
        for (int quarter = 0; quarter < 8; quarter++) {
            numbers.addAll(List.of(leans(quarter, 0), leans(quarter, 1), wet(quarter)));
        }
        if (squares() > 0) {
            numbers.addAll(List.of(site(10), moss()));
            numbers.addAll(List.of(late(4, wet(4), 0), late(4, wet(4), 1), late(4, wet(4), 2), storm(4)));
        }
        for (char letter : page.toCharArray()) {
            numbers.add((int) letter);
        }
        for (int what = 0; what < 8; what++) {
            numbers.add(count(what));
        }
        long h = 613;
        for (int number : numbers) {
            h = 31 * h + number;
        }
        return h;
    }
}
