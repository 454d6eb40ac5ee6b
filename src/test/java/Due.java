/** Compares answers with those that are due, and ends a test's run. */
final class Due {
    private static final int MOST_TOLD = 40;

    private static int asked = 0;
    private static int wrong = 0;

    private Due() {
    }

    static void is(String call, long got, long want) {
        asked++;
        if (got != want) {
            wrong++;
            if (wrong <= MOST_TOLD) {
                System.out.println(call + " answered " + got + ", due is " + want);
            }
        }
    }

    static void holds(String what, boolean does) {
        is(what, does ? 1 : 0, 1);
    }

    /** Writes a text behind THE PAGE; answers what the last call of letters() answered. */
    static int write(IslandThatLeans x, String text) {
        int answer = x.count(4);
        for (int i = 0; i < text.length(); i += 8) {
            answer = x.letters(packed(text.substring(i, Math.min(i + 8, text.length()))));
        }
        return answer;
    }

    /** A new object on whose PAGE that text stands. */
    static IslandThatLeans lettered(String text) {
        IslandThatLeans x = new IslandThatLeans();
        write(x, text);
        return x;
    }

    /** Up to eight letters as one long, the first in the lowest byte. */
    static long packed(String text) {
        long w = 0;
        for (int i = text.length() - 1; i >= 0; i--) {
            w = (w << 8) | text.charAt(i);
        }
        return w;
    }

    /** A new object on which that plan was read. */
    static IslandThatLeans planned(String text) {
        IslandThatLeans x = lettered(text);
        x.plan();
        return x;
    }

    /** So many rows of so many squares, all of them like that sign. */
    static String page(int rows, int columns, char sign) {
        String row = String.valueOf(sign).repeat(columns);
        return row + ("/" + row).repeat(rows - 1);
    }

    /** h of digest(): 613, then for each number 31 times h, and it. */
    static long folded(long... numbers) {
        long h = 613;
        for (long number : numbers) {
            h = 31 * h + number;
        }
        return h;
    }

    static void end() {
        System.out.println(wrong == 0 ? asked + " answers as due" : wrong + " of " + asked + " answers not as due");
        if (wrong != 0) {
            System.exit(1);
        }
    }
}
