/** Compares answers with those that are due, and ends a test's run. */
final class Due {
    private static int asked = 0;
    private static int wrong = 0;

    private Due() {
    }

    static void is(String call, long got, long want) {
        asked++;
        if (got != want) {
            wrong++;
            System.out.println(call + " answered " + got + ", due is " + want);
        }
    }

    static void holds(String what, boolean does) {
        is(what, does ? 1 : 0, 1);
    }

    /** Writes a text behind THE PAGE; answers what the last call of letters() answered. */
    static int write(IslandThatLeans x, String text) {
        int answer = x.count(4);
        for (int i = 0; i < text.length(); i += 8) {
            answer = x.letters(packed(text.substring(i, Math.min(i + 8, text.length()))));
        }
        return answer;
    }

    /** Up to eight letters as one long, the first in the lowest byte. */
    static long packed(String text) {
        long w = 0;
        for (int i = text.length() - 1; i >= 0; i--) {
            w = (w << 8) | text.charAt(i);
        }
        return w;
    }

    /** A new object on which that plan was read. */
    static IslandThatLeans planned(String text) {
        IslandThatLeans x = new IslandThatLeans();
        write(x, text);
        x.plan();
        return x;
    }

    static void end() {
        System.out.println(wrong == 0 ? asked + " answers as due" : wrong + " of " + asked + " answers not as due");
        if (wrong != 0) {
            System.exit(1);
        }
    }
}
