/** Promises 13 to 15: leans, dip, wet. */
public final class DayTest {
    public static void main(String[] args) {
        promise13Leans();
        promise14Dip();
        promise15Wet();
        Due.end();
    }

    /** EAST -3, -1, 1, 3 by columns and SOUTH -2, 0, 2 by rows. */
    private static IslandThatLeans loaded() {
        IslandThatLeans x = Due.planned("1..2/..../3..9");
        x.thing(1, 10, 0);
        x.thing(4, 20, 11);
        x.thing(3, 7, 6);
        x.stand(2, 3, 8);
        return x;
    }

    private static void promise13Leans() {
        IslandThatLeans x = loaded();
        // 10 times -3, 40 times 3, 7 times 1; 10 times -2, 40 times 2, 7 times 0.
        Due.is("leans(0, 0)", x.leans(0, 0), 97);
        Due.is("leans(0, 1)", x.leans(0, 1), 60);
        // Now 7 times -3 and 7 times 2.
        Due.is("leans(3, 0)", x.leans(3, 0), 69);
        Due.is("leans(3, 1)", x.leans(3, 1), 74);
        Due.is("leans(7, 0)", x.leans(7, 0), 97);
        Due.is("leans(8, 0)", x.leans(8, 0), -100101);
        Due.is("leans(-1, 0)", x.leans(-1, 0), -100101);
        Due.is("leans(0, 2)", x.leans(0, 2), -100102);
        Due.is("leans(0, -1)", x.leans(0, -1), -100102);
        Due.is("UNKNOWN ahead of OUTSIDE", x.leans(8, 2), -100101);
        IslandThatLeans bare = new IslandThatLeans();
        Due.is("leans(7, 1) without a plan", bare.leans(7, 1), 0);
        Due.is("leans(8, 1) without a plan", bare.leans(8, 1), -100101);
    }

    private static void promise14Dip() {
        IslandThatLeans x = loaded();
        Due.is("dip(0, 0)", x.dip(0, 0), -97 * 3 - 60 * 2);
        Due.is("dip(11, 0)", x.dip(11, 0), 97 * 3 + 60 * 2);
        Due.is("dip(8, 3)", x.dip(8, 3), -69 * 3 + 74 * 2);
        Due.is("dip of a field", x.dip(5, 3), -69);
        Due.is("dip(12, 0)", x.dip(12, 0), -1000101);
        Due.is("dip(-1, 0)", x.dip(-1, 0), -1000101);
        Due.is("dip(0, 8)", x.dip(0, 8), -1000101);
        Due.is("dip(0, -1)", x.dip(0, -1), -1000101);
        Due.is("dip(0, 0) without a plan", new IslandThatLeans().dip(0, 0), -1000101);
    }

    private static void promise15Wet() {
        IslandThatLeans x = loaded();
        // The dips of 3 and 11 in quarter 0 are 171 and 411: 100 and 450 are asked.
        Due.is("wet(0)", x.wet(0), 1 << 3);
        IslandThatLeans edge = Due.planned("1./..");
        edge.thing(0, 24, 0);
        Due.is("a dip of 48", edge.wet(0), 0);
        edge.thing(3, 1, 0);
        Due.is("a dip of 50", edge.wet(0), 1);
        edge.stand(1, 6, 2);
        Due.is("a dip of 48 in quarter 6", edge.wet(6), 0);
        Due.is("a dip of 50 in quarter 7", edge.wet(7), 1);
        Due.is("wet(8)", edge.wet(8), IslandThatLeans.UNKNOWN);
        Due.is("wet(-1)", edge.wet(-1), IslandThatLeans.UNKNOWN);
        IslandThatLeans nine = Due.planned("9./..");
        nine.thing(4, 99, 0);
        nine.thing(0, 26, 0);
        Due.is("a dip of 448 at a height of 9", nine.wet(0), 0);
        nine.thing(0, 1, 0);
        Due.is("a dip of 450 at a height of 9", nine.wet(0), 1);
        IslandThatLeans fields = Due.planned("../.1");
        fields.thing(4, 99, 0);
        Due.is("fields are never wet", fields.wet(0), 0);
        IslandThatLeans large = Due.planned("....../....../....../....../....11");
        large.thing(1, 9, 29);
        Due.is("the last bits", large.wet(0), (1 << 28) | (1 << 29));
        Due.is("wet(0) without a plan", new IslandThatLeans().wet(0), 0);
    }
}
