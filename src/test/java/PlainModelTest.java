/** Runs of drawn calls, ordinary and wrong ones, each compared with what the plain model answers. */
public final class PlainModelTest {
    private static final int RUNS = 400;
    private static final int CALLS = 120;

    private static long seed;

    private IslandThatLeans program = new IslandThatLeans();
    private PlainModel model = new PlainModel();
    private final int heaviest;
    private final int run;

    private PlainModelTest(int run) {
        this.run = run;
        // Light things leave some doors dry, so that the searches have something to find.
        this.heaviest = run % 3 == 0 ? 99 : run % 3 == 1 ? 40 : 12;
    }

    public static void main(String[] args) {
        int runs = args.length > 0 ? Integer.parseInt(args[0]) : RUNS;
        for (int run = 0; run < runs; run++) {
            seed = 1000003L * run + 17;
            PlainModelTest test = new PlainModelTest(run);
            test.write(drawnPlan());
            test.same("plan()", test.program.plan(), test.model.plan());
            for (int call = 0; call < CALLS; call++) {
                test.call();
            }
            test.same("digest()", test.program.digest(), test.model.digest());
        }
        Due.end();
    }

    /** A number from 0 to many - 1, the same ones in each run of the test. */
    private static int draw(int many) {
        seed = seed * 6364136223846793005L + 1442695040888963407L;
        return (int) ((seed >>> 33) % many);
    }

    private static boolean seldom() {
        return draw(25) == 0;
    }

    /** Mostly a number from 0 to many - 1, seldom one beside them. */
    private static int about(int many) {
        if (!seldom()) {
            return many > 0 ? draw(many) : draw(3);
        }
        int[] odd = {-1, many, many + 1, Integer.MIN_VALUE, Integer.MAX_VALUE, -many, 64, 31, 32};
        return odd[draw(odd.length)];
    }

    private static int whatOf(int few) {
        return draw(3) == 0 ? about(few) : seldom() ? 9 + 9 * draw(2) : 10 + draw(8);
    }

    private static String drawnPlan() {
        int rows = 2 + draw(4);
        int columns = 2 + draw(5);
        int doors = 1 + draw(8);
        int heights = 1 + draw(9);
        StringBuilder text = new StringBuilder();
        for (int row = 0; row < rows; row++) {
            text.append(row > 0 ? "/" : "");
            for (int column = 0; column < columns; column++) {
                text.append(draw(8) < doors ? (char) ('1' + draw(heights)) : '.');
            }
        }
        if (draw(12) == 0) {
            text.setCharAt(draw(text.length()), "/.n0:".charAt(draw(5)));
        }
        return text.toString();
    }

    private static String drawnWay() {
        StringBuilder text = new StringBuilder();
        int letters = 1 + draw(draw(3) == 0 ? 8 : 3);
        for (int i = 0; i < letters; i++) {
            text.append(seldom() ? 'x' : "nesw".charAt(draw(4)));
        }
        return text.toString();
    }

    private void same(String call, long got, long want) {
        Due.is("run " + run + ": " + call, got, want);
    }

    private void write(String text) {
        for (int i = 0; i < text.length(); i += 8) {
            sendLetters(Due.packed(text.substring(i, Math.min(i + 8, text.length()))));
        }
    }

    private void sendLetters(long w) {
        same("letters(" + w + ")", program.letters(w), model.letters(w));
    }

    private int square() {
        return about(model.count(0));
    }

    private int thing() {
        return about(model.count(2));
    }

    private int weight() {
        return seldom() ? about(100) : 1 + draw(heaviest);
    }

    private void call() {
        int sort = draw(100);
        if (sort < 8) {
            callTexts();
        } else if (sort < 50) {
            callThings();
        } else if (sort < 60) {
            callDay();
        } else if (sort < 90) {
            callWouldBe();
        } else {
            callToldOfAll();
        }
    }

    private void callTexts() {
        switch (draw(6)) {
            case 0:
                same("blank()", program.blank(), model.blank());
                write(drawnWay());
                break;
            case 1:
                sendLetters(draw(2) == 0 ? draw(1000) : (long) draw(1 << 30) << draw(40));
                break;
            case 2:
                int sort = about(2);
                same("fault(" + sort + ")", program.fault(sort), model.fault(sort));
                break;
            case 3:
                if (draw(6) == 0) {
                    same("blank()", program.blank(), model.blank());
                    write(drawnPlan());
                    same("fault(0)", program.fault(0), model.fault(0));
                }
                same("plan()", program.plan(), model.plan());
                break;
            default:
                int square = square();
                int what = about(3);
                same("square(" + square + ", " + what + ")", program.square(square, what), model.square(square, what));
        }
    }

    private void callThings() {
        int thing = thing();
        int square = square();
        int quarter = about(8);
        String of = "(" + thing + ", " + quarter + ", " + square + ")";
        switch (draw(9)) {
            case 0:
            case 1:
                int kind = about(5);
                int weight = weight();
                same("thing(" + kind + ", " + weight + ", " + square + ")",
                        program.thing(kind, weight, square), model.thing(kind, weight, square));
                break;
            case 2:
                int what = whatOf(3);
                same("about(" + thing + ", " + what + ")", program.about(thing, what), model.about(thing, what));
                break;
            case 3:
                int asked = about(5);
                same("as(" + thing + ", " + asked + ")", program.as(thing, asked), model.as(thing, asked));
                break;
            case 4:
                same("put" + of, program.put(thing, square), model.put(thing, square));
                break;
            case 5:
                int other = thing();
                same("trade(" + other + ") " + of, program.trade(thing, other, quarter), model.trade(thing, other, quarter));
                break;
            default:
                same("stand" + of, program.stand(thing, quarter, square), model.stand(thing, quarter, square));
        }
    }

    private void callDay() {
        int quarter = about(8);
        int square = square();
        int way = about(2);
        same("leans(" + quarter + ", " + way + ")", program.leans(quarter, way), model.leans(quarter, way));
        same("dip(" + square + ", " + quarter + ")", program.dip(square, quarter), model.dip(square, quarter));
        same("wet(" + quarter + ")", program.wet(quarter), model.wet(quarter));
    }

    private void callWouldBe() {
        int quarter = about(8);
        switch (draw(8)) {
            case 0:
                int asked = whatOf(2);
                same("trades(" + quarter + ", " + asked + ")", program.trades(quarter, asked), model.trades(quarter, asked));
                break;
            case 1:
                callCounter();
                break;
            case 2:
                int found = about(5);
                same("stones(" + found + ")", program.stones(found), model.stones(found));
                break;
            case 3:
                int weight = weight();
                same("site(" + weight + ")", program.site(weight), model.site(weight));
                break;
            case 4:
                callLate(quarter);
                break;
            case 5:
                same("storm(" + quarter + ")", program.storm(quarter), model.storm(quarter));
                break;
            case 6:
                same("moss()", program.moss(), model.moss());
                break;
            default:
                int minutes = seldom() ? about(61) : 1 + draw(60);
                int cowSeed = seldom() ? about(7) : draw(Integer.MAX_VALUE);
                int what = whatOf(2);
                same("cows(" + quarter + ", " + minutes + ", " + cowSeed + ", " + what + ")",
                        program.cows(quarter, minutes, cowSeed, what), model.cows(quarter, minutes, cowSeed, what));
        }
    }

    private void callCounter() {
        if (draw(2) == 0) {
            same("blank()", program.blank(), model.blank());
            write(drawnWay());
        }
        int square = square();
        int weight = weight();
        int what = about(2);
        same("counter(" + square + ", " + weight + ", " + what + ")",
                program.counter(square, weight, what), model.counter(square, weight, what));
    }

    private void callLate(int quarter) {
        int doors = draw(4) == 0 ? about(1 << Math.min(29, model.count(0))) : model.wet(draw(8));
        int what = about(3);
        same("late(" + quarter + ", " + doors + ", " + what + ")",
                program.late(quarter, doors, what), model.late(quarter, doors, what));
    }

    private void callToldOfAll() {
        switch (draw(5)) {
            case 0:
                same("image()", program.image(), model.image());
                break;
            case 1:
                same("restore()", program.restore(), model.restore());
                break;
            case 2:
                int what = about(8);
                same("count(" + what + ")", program.count(what), model.count(what));
                break;
            default:
                same("digest()", program.digest(), model.digest());
        }
    }
}
