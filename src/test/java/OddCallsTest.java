import java.util.ArrayList;
import java.util.List;

/**
 * Every call with numbers at and beside all bounds, in states at and beside all bounds: none throws, each
 * answers as the plain model does, and a refused one changes nothing ("they change nothing").
 */
public final class OddCallsTest {
    // As an object is used for at most 512 calls, with a digest() behind each of these.
    private static final int CALLS_OF_AN_OBJECT = 200;

    private static final int[] MANY = {Integer.MIN_VALUE, -100, -2, -1, 0, 1, 2, 3, 4, 5, 6, 7, 8, 9, 10, 11, 16, 17, 18,
        29, 30, 31, 32, 60, 61, 98, 99, 100, 126, 127, 1 << 30, Integer.MAX_VALUE};
    private static final int[] SOME = {Integer.MIN_VALUE, -1, 0, 1, 3, 4, 5, 7, 8, 29, 30, 99, 100, Integer.MAX_VALUE};
    private static final int[] FEW = {Integer.MIN_VALUE, -1, 0, 1, 2, 7, 8, 10, 17, 18, 60, 61, Integer.MAX_VALUE};
    private static final int[] ONE = {0};

    private final String state;
    private final List<int[]> recipe;
    private IslandThatLeans program;
    private PlainModel model;
    private int calls;
    private long told;

    private OddCallsTest(String state, List<int[]> recipe) {
        this.state = state;
        this.recipe = recipe;
    }

    public static void main(String[] args) {
        List<int[]> recipe = new ArrayList<>();
        new OddCallsTest("a new object", recipe).oddCalls();
        new OddCallsTest("a full page", lettered(recipe, "n".repeat(40))).oddCalls();
        new OddCallsTest("a plan alone", planned("1./.2")).oddCalls();
        new OddCallsTest("no image, a way", peopled(planned("1../..2"), 6, "es")).oddCalls();
        new OddCallsTest("the greatest plan", peopled(planned(Due.page(5, 6, '1')), 8, "eeeeeww")).oddCalls();
        new OddCallsTest("an image", imaged()).oddCalls();
        new OddCallsTest("all done", done()).oddCalls();
        oddLongs();
        Due.end();
    }

    private static List<int[]> with(List<int[]> recipe, int... call) {
        List<int[]> more = new ArrayList<>(recipe);
        more.add(new int[] {call[0], call.length > 1 ? call[1] : 0, call.length > 2 ? call[2] : 0, call.length > 3 ? call[3] : 0});
        return more;
    }

    private static List<int[]> lettered(List<int[]> recipe, String text) {
        List<int[]> more = recipe;
        for (char letter : text.toCharArray()) {
            more = with(more, Both.LETTERS, letter);
        }
        return more;
    }

    private static List<int[]> planned(String text) {
        return with(lettered(new ArrayList<>(), text), Both.PLAN);
    }

    private static List<int[]> peopled(List<int[]> recipe, int things, String way) {
        List<int[]> more = recipe;
        for (int number = 0; number < things; number++) {
            more = with(more, Both.THING, (number + 1) % 5, 5 + 9 * number, number % 6);
            more = with(more, Both.STAND, number, number, 0);
        }
        return lettered(more, way);
    }

    private static List<int[]> imaged() {
        List<int[]> more = peopled(planned("21./..1"), 5, "e");
        more = with(more, Both.IMAGE);
        more = with(more, Both.THING, 3, 99, 0);
        more = with(more, Both.THING, 3, 1, 0);
        more = with(more, Both.RESTORE);
        return with(more, Both.THING, 4, 9, 3);
    }

    private static List<int[]> done() {
        List<int[]> more = peopled(planned("1./.2"), 4, "x");
        for (int time = 0; time < 30; time++) {
            more = with(more, Both.TRADES, 0, 0);
        }
        for (int time = 0; time < 20; time++) {
            more = with(more, Both.STONES, 0);
        }
        return more;
    }

    private void oddCalls() {
        for (int method = 0; method < Both.DIGEST; method++) {
            // What a call before has changed is gone.
            calls = CALLS_OF_AN_OBJECT;
            int many = Both.PARAMETERS[method];
            int[] each = many < 3 ? MANY : many == 3 ? SOME : FEW;
            for (int a : many > 0 ? each : ONE) {
                for (int b : many > 1 ? each : ONE) {
                    for (int c : many > 2 ? each : ONE) {
                        for (int d : many > 3 ? each : ONE) {
                            oddCall(method, a, b, c, d);
                        }
                    }
                }
            }
        }
    }

    private void renew() {
        program = new IslandThatLeans();
        model = new PlainModel();
        calls = 0;
        for (int[] call : recipe) {
            Due.is(state + ": " + Both.NAMES[call[0]], Both.answer(program, call[0], call[1], call[2], call[3], 0),
                    Both.answer(model, call[0], call[1], call[2], call[3], 0));
        }
        told = program.digest();
    }

    private void oddCall(int method, int a, int b, int c, int d) {
        if (calls >= CALLS_OF_AN_OBJECT) {
            renew();
        }
        calls++;
        String call = state + ": " + Both.NAMES[method] + "(" + a + ", " + b + ", " + c + ", " + d + ")";
        long before = told;
        long answer;
        try {
            answer = Both.answer(program, method, a, b, c, d);
            told = program.digest();
        } catch (RuntimeException thrown) {
            Due.holds(call + " does not throw " + thrown, false);
            calls = CALLS_OF_AN_OBJECT;
            return;
        }
        Due.is(call, answer, Both.answer(model, method, a, b, c, d));
        if (isRefusal(answer)) {
            Due.is("digest() behind the refused " + call, told, before);
        }
    }

    private static boolean isRefusal(long answer) {
        return (answer <= -101 && answer >= -104) || answer == -100101 || answer == -100102 || answer == -1000101;
    }

    /** Longs with a byte at and beside the bounds in each place, behind 40 letters and behind 33. */
    private static void oddLongs() {
        for (int had : new int[] {0, 33, 39, 40}) {
            OddCallsTest test = new OddCallsTest("letters", lettered(new ArrayList<>(), "a".repeat(had)));
            for (long filling : new long[] {0L, 0x6161616161616161L}) {
                for (int place = 0; place < 8; place++) {
                    for (long code : new long[] {0, 1, 97, 126, 127, 128, 255}) {
                        test.renew();
                        long w = filling & ~(255L << 8 * place) | code << 8 * place;
                        long answer = test.program.letters(w);
                        Due.is("letters(" + w + ") behind " + had, answer, test.model.letters(w));
                        Due.is("digest() behind letters(" + w + ")", test.program.digest(), test.model.digest());
                    }
                }
            }
        }
    }
}
