/** Promises 7 to 12: thing, about, as, stand, put, trade. */
public final class ThingsTest {
    private static final int UNKNOWN = IslandThatLeans.UNKNOWN;
    private static final int OUTSIDE = IslandThatLeans.OUTSIDE;
    private static final int STATE = IslandThatLeans.STATE;

    public static void main(String[] args) {
        promise7Thing();
        promise7ThingRefused();
        promise8About();
        promise9As();
        promise10Stand();
        promise11Put();
        promise12Trade();
        Due.end();
    }

    private static void promise7Thing() {
        IslandThatLeans x = Due.planned("../..");
        for (int number = 0; number < 8; number++) {
            Due.is("thing " + number, x.thing(number % 5, 1 + number * 14, number % 4), number);
        }
        Due.is("a ninth thing", x.thing(0, 1, 0), IslandThatLeans.FULL);
        Due.is("things", x.count(2), 8);
        Due.is("people", x.count(3), 2);
        Due.is("where thing 6 came", x.about(6, 17), 2);
        Due.is("weight of thing 7", x.about(7, 1), 99);
    }

    private static void promise7ThingRefused() {
        IslandThatLeans x = Due.planned("../..");
        Due.is("kind -1", x.thing(-1, 1, 0), OUTSIDE);
        Due.is("kind 5", x.thing(5, 1, 0), OUTSIDE);
        Due.is("weight 0", x.thing(0, 0, 0), OUTSIDE);
        Due.is("weight 100", x.thing(0, 100, 0), OUTSIDE);
        Due.is("weight -1", x.thing(0, -1, 0), OUTSIDE);
        Due.is("square -1", x.thing(0, 1, -1), UNKNOWN);
        Due.is("square 4", x.thing(0, 1, 4), UNKNOWN);
        Due.is("OUTSIDE ahead of UNKNOWN", x.thing(5, 1, 4), OUTSIDE);
        Due.is("OUTSIDE of a weight ahead of UNKNOWN", x.thing(0, 100, 4), OUTSIDE);
        Due.is("things behind refusals", x.count(2), 0);
        for (int number = 0; number < 8; number++) {
            x.thing(0, 1, 0);
        }
        Due.is("OUTSIDE ahead of FULL", x.thing(0, 0, 0), OUTSIDE);
        Due.is("UNKNOWN ahead of FULL", x.thing(0, 1, 4), UNKNOWN);
        Due.is("FULL", x.thing(0, 1, 3), IslandThatLeans.FULL);
        IslandThatLeans bare = new IslandThatLeans();
        Due.is("OUTSIDE without a plan", bare.thing(0, 0, 0), OUTSIDE);
        Due.is("UNKNOWN without a plan", bare.thing(0, 1, 0), UNKNOWN);
    }

    private static void promise8About() {
        IslandThatLeans x = Due.planned(".../...");
        int[] weighs = {11, 12, 13, 14, 30};
        for (int kind = 0; kind < 5; kind++) {
            x.thing(kind, 11 + kind, kind);
            Due.is("kind", x.about(kind, 0), kind);
            Due.is("weight", x.about(kind, 1), 11 + kind);
            Due.is("what it weighs", x.about(kind, 2), weighs[kind]);
            for (int quarter = 0; quarter < 8; quarter++) {
                Due.is("where it stands", x.about(kind, 10 + quarter), kind);
            }
        }
        x.stand(4, 6, 2);
        Due.is("where it stands in quarter 5", x.about(4, 15), 4);
        Due.is("where it stands in quarter 6", x.about(4, 16), 2);
        Due.is("where it stands in quarter 7", x.about(4, 17), 4);
        Due.is("about(5, 0)", x.about(5, 0), UNKNOWN);
        Due.is("about(-1, 0)", x.about(-1, 0), UNKNOWN);
        Due.is("about(8, 99)", x.about(8, 99), UNKNOWN);
        for (int what : new int[] {-1, 3, 9, 18, Integer.MIN_VALUE, Integer.MAX_VALUE}) {
            Due.is("about(0, " + what + ")", x.about(0, what), OUTSIDE);
        }
    }

    private static void promise9As() {
        IslandThatLeans x = Due.planned("../..");
        int[] kinds = {4, 3, 2, 1, 0};
        for (int number = 0; number < 5; number++) {
            x.thing(kinds[number], 5, 0);
        }
        for (int number = 0; number < 5; number++) {
            for (int kind = 0; kind < 5; kind++) {
                boolean isSuch = kind == 0 || kind == kinds[number] || (kind == 3 && kinds[number] == 4);
                Due.is("as(" + number + ", " + kind + ")", x.as(number, kind), isSuch ? number : -1);
            }
        }
        Due.is("as(5, 0)", x.as(5, 0), UNKNOWN);
        Due.is("as(-1, 0)", x.as(-1, 0), UNKNOWN);
        Due.is("as(0, 5)", x.as(0, 5), OUTSIDE);
        Due.is("as(0, -1)", x.as(0, -1), OUTSIDE);
        Due.is("as(5, 5)", x.as(5, 5), UNKNOWN);
    }

    private static void promise10Stand() {
        IslandThatLeans x = Due.planned("../..");
        x.thing(3, 5, 1);
        x.thing(4, 5, 2);
        x.thing(1, 5, 3);
        Due.is("stand(0, 0, 3)", x.stand(0, 0, 3), 1);
        Due.is("stand(0, 0, 2)", x.stand(0, 0, 2), 3);
        Due.is("stand(0, 7, 0)", x.stand(0, 7, 0), 1);
        Due.is("where in quarter 0", x.about(0, 10), 2);
        Due.is("where in quarter 1", x.about(0, 11), 1);
        Due.is("where in quarter 7", x.about(0, 17), 0);
        Due.is("a fat stands", x.stand(1, 3, 0), 2);
        Due.is("a stone", x.stand(2, 3, 0), STATE);
        Due.is("a stone stays", x.about(2, 13), 3);
        Due.is("stand(3, 0, 0)", x.stand(3, 0, 0), UNKNOWN);
        Due.is("stand(-1, 0, 0)", x.stand(-1, 0, 0), UNKNOWN);
        Due.is("stand(0, 8, 0)", x.stand(0, 8, 0), UNKNOWN);
        Due.is("stand(0, -1, 0)", x.stand(0, -1, 0), UNKNOWN);
        Due.is("stand(0, 0, 4)", x.stand(0, 0, 4), UNKNOWN);
        Due.is("stand(0, 0, -1)", x.stand(0, 0, -1), UNKNOWN);
        Due.is("UNKNOWN quarter ahead of STATE", x.stand(2, 8, 0), UNKNOWN);
        Due.is("UNKNOWN square ahead of STATE", x.stand(2, 0, 4), UNKNOWN);
    }

    private static void promise11Put() {
        IslandThatLeans x = Due.planned("../..");
        x.thing(0, 5, 1);
        x.thing(2, 5, 0);
        x.thing(3, 5, 2);
        x.thing(4, 5, 2);
        Due.is("put(0, 3)", x.put(0, 3), 1);
        Due.is("put(0, 2)", x.put(0, 2), 3);
        Due.is("put(1, 3)", x.put(1, 3), 0);
        for (int quarter = 0; quarter < 8; quarter++) {
            Due.is("where it was put", x.about(0, 10 + quarter), 2);
        }
        Due.is("a person", x.put(2, 0), STATE);
        Due.is("a fat", x.put(3, 0), STATE);
        Due.is("a person stays", x.about(2, 10), 2);
        Due.is("put(4, 0)", x.put(4, 0), UNKNOWN);
        Due.is("put(-1, 0)", x.put(-1, 0), UNKNOWN);
        Due.is("put(0, 4)", x.put(0, 4), UNKNOWN);
        Due.is("put(0, -1)", x.put(0, -1), UNKNOWN);
        Due.is("UNKNOWN ahead of STATE", x.put(2, 4), UNKNOWN);
    }

    private static void promise12Trade() {
        IslandThatLeans x = Due.planned("../..");
        x.thing(3, 5, 1);
        x.thing(4, 6, 2);
        x.thing(0, 7, 3);
        x.thing(3, 8, 1);
        Due.is("trade(0, 1, 4)", x.trade(0, 1, 4), 1);
        Due.is("where 0 stands in 4", x.about(0, 14), 2);
        Due.is("where 1 stands in 4", x.about(1, 14), 1);
        Due.is("where 0 stands in 3", x.about(0, 13), 1);
        Due.is("where 1 stands in 5", x.about(1, 15), 2);
        Due.is("of like squares", x.trade(0, 3, 0), 0);
        Due.is("with itself", x.trade(1, 1, 0), 0);
        Due.is("where 1 stands", x.about(1, 10), 2);
        Due.is("with a thing", x.trade(0, 2, 0), STATE);
        Due.is("of a thing", x.trade(2, 0, 0), STATE);
        Due.is("where the thing stands", x.about(2, 10), 3);
        Due.is("trade(4, 0, 0)", x.trade(4, 0, 0), UNKNOWN);
        Due.is("trade(0, 4, 0)", x.trade(0, 4, 0), UNKNOWN);
        Due.is("trade(-1, 0, 0)", x.trade(-1, 0, 0), UNKNOWN);
        Due.is("trade(0, -1, 0)", x.trade(0, -1, 0), UNKNOWN);
        Due.is("trade(0, 1, 8)", x.trade(0, 1, 8), UNKNOWN);
        Due.is("trade(0, 1, -1)", x.trade(0, 1, -1), UNKNOWN);
        Due.is("UNKNOWN ahead of STATE", x.trade(2, 4, 0), UNKNOWN);
        Due.is("UNKNOWN quarter ahead of STATE", x.trade(2, 0, 8), UNKNOWN);
    }
}
