/** Promises 24 to 27: image, restore, count, digest. */
public final class ToldOfAllTest {
    private static final int STATE = IslandThatLeans.STATE;

    public static void main(String[] args) {
        promise24Image();
        promise25Restore();
        promise25RestoreRefused();
        promise25RestoreLeavesTheRest();
        promise26Count();
        promise27DigestOfANewObject();
        promise27Digest();
        promise27DigestTellsStates();
        Due.end();
    }

    private static void promise24Image() {
        Due.is("image() without a plan", new IslandThatLeans().image(), STATE);
        IslandThatLeans x = Due.planned("../..");
        Due.is("image() of none", x.image(), 0);
        x.thing(1, 5, 0);
        Due.is("image() of one", x.image(), 1);
        x.put(0, 3);
        Due.is("image() later", x.image(), 1);
        x.put(0, 2);
        x.restore();
        Due.is("the latest is kept", x.about(0, 10), 3);
    }

    private static void promise25Restore() {
        IslandThatLeans x = Due.planned("../..");
        x.thing(1, 5, 0);
        x.thing(3, 6, 1);
        x.stand(1, 4, 2);
        x.image();
        x.put(0, 3);
        x.stand(1, 4, 3);
        x.stand(1, 5, 3);
        x.thing(4, 7, 2);
        Due.is("restore()", x.restore(), 2);
        Due.is("things", x.count(2), 2);
        Due.is("people", x.count(3), 1);
        Due.is("where 0 stands", x.about(0, 10), 0);
        Due.is("where 0 stands in 7", x.about(0, 17), 0);
        Due.is("where 1 stands in 4", x.about(1, 14), 2);
        Due.is("where 1 stands in 5", x.about(1, 15), 1);
        Due.is("thing 2 is gone", x.about(2, 0), IslandThatLeans.UNKNOWN);
        Due.is("another thing 2", x.thing(2, 8, 3), 2);
        Due.is("its kind", x.about(2, 0), 2);
        Due.is("its weight", x.about(2, 2), 8);
        Due.is("its place", x.about(2, 13), 3);
        Due.is("restore() again", x.restore(), 2);
        Due.is("things again", x.count(2), 2);
    }

    private static void promise25RestoreRefused() {
        IslandThatLeans x = Due.planned("../..");
        Due.is("none was kept", x.restore(), STATE);
        x.thing(1, 5, 0);
        x.image();
        Due.write(x, "../..");
        x.plan();
        Due.is("a plan was read since", x.restore(), STATE);
        x.thing(1, 5, 0);
        Due.is("behind a thing, too", x.restore(), STATE);
        Due.is("things stay", x.count(2), 1);
        x.image();
        Due.write(x, "../.");
        Due.is("no plan", x.plan(), STATE);
        Due.is("no plan was read since", x.restore(), 1);
    }

    private static void promise25RestoreLeavesTheRest() {
        IslandThatLeans x = Due.planned("1./..");
        x.image();
        x.trades(0, 0);
        x.stones(0);
        Due.write(x, "abc");
        x.restore();
        Due.is("letters", x.count(4), 3);
        Due.is("plans read", x.count(5), 1);
        Due.is("trades() done", x.count(6), 1);
        Due.is("stones() done", x.count(7), 1);
    }

    private static void promise26Count() {
        IslandThatLeans x = Due.planned("1.9/..2");
        x.thing(3, 1, 0);
        x.thing(4, 1, 0);
        x.thing(1, 1, 0);
        Due.write(x, "abcd");
        x.trades(0, 0);
        x.trades(0, 0);
        x.stones(0);
        int[] due = {6, 3, 3, 2, 4, 1, 2, 1};
        for (int what = 0; what < 8; what++) {
            Due.is("count(" + what + ")", x.count(what), due[what]);
        }
        Due.is("count(-1)", x.count(-1), IslandThatLeans.OUTSIDE);
        Due.is("count(8)", x.count(8), IslandThatLeans.OUTSIDE);
        x.blank();
        Due.write(x, "../..");
        x.plan();
        Due.is("squares of another plan", x.count(0), 4);
        Due.is("no doors", x.count(1), 0);
        Due.is("plans read", x.count(5), 2);
    }

    private static long folded(long... numbers) {
        long h = 613;
        for (long number : numbers) {
            h = 31 * h + number;
        }
        return h;
    }

    private static void promise27DigestOfANewObject() {
        long[] zeros = new long[24 + 8];
        IslandThatLeans x = new IslandThatLeans();
        Due.is("digest() of a new object", x.digest(), folded(zeros));
        Due.write(x, "n~");
        long[] lettered = new long[24 + 2 + 8];
        lettered[24] = 'n';
        lettered[25] = '~';
        lettered[26 + 4] = 2;
        Due.is("digest() with letters", x.digest(), folded(lettered));
    }

    private static void promise27Digest() {
        IslandThatLeans x = Due.planned("1./.2");
        x.thing(4, 15, 0);
        x.stand(0, 4, 3);
        x.thing(1, 2, 1);
        x.trades(0, 0);
        x.stones(1);
        x.stones(1);
        Due.write(x, "e");
        // The fat leans 30 west and north, in quarter 4 east and south; the stone 2 east and north.
        // Door 0 dips 60 but in quarter 4: SITE 3, MOSS 0. Then door 3 dips 60 of 100: it is dry, so
        // that the fat was not late (one set, of nobody), and STORM is 0.
        long[] due = {1, 0, 0, 2,
            4, 15, 30, 0, 0, 0, 0, 3, 0, 0, 0,
            1, 2, 2, 1, 1, 1, 1, 1, 1, 1, 1,
            -28, -32, 1, -28, -32, 1, -28, -32, 1, -28, -32, 1, 32, 28, 0, -28, -32, 1, -28, -32, 1, -28, -32, 1,
            3, 0, 1, 0, 0, 0,
            'e',
            4, 2, 2, 1, 1, 1, 1, 2};
        Due.is("digest()", x.digest(), folded(due));
        Due.is("digest() again", x.digest(), folded(due));
    }

    private static void promise27DigestTellsStates() {
        IslandThatLeans x = Due.planned("1./..");
        x.thing(3, 5, 0);
        long before = x.digest();
        x.image();
        Due.is("an image is not told", x.digest(), before);
        x.stand(0, 6, 1);
        Due.holds("where one stands is told", x.digest() != before);
        x.restore();
        Due.is("it goes on from the image", x.digest(), before);
        x.trades(0, 0);
        Due.holds("trades() done are told", x.digest() != before);
    }
}
