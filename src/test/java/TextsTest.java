/** Promises 1 to 6: a new object, letters, blank, fault, plan, square. */
public final class TextsTest {
    public static void main(String[] args) {
        promise1NewObject();
        promise2Letters();
        promise2LettersRefused();
        promise3Blank();
        promise4FaultOfAPlan();
        promise4FaultOfAWay();
        promise5Plan();
        promise5NoPlan();
        promise5AnotherPlan();
        promise6Square();
        Due.end();
    }

    private static void promise1NewObject() {
        IslandThatLeans x = new IslandThatLeans();
        for (int what = 0; what < 8; what++) {
            Due.is("count(" + what + ") of a new object", x.count(what), 0);
        }
        Due.is("square(0, 0) of a new object", x.square(0, 0), -100101);
        Due.is("thing(0, 1, 0) of a new object", x.thing(0, 1, 0), IslandThatLeans.UNKNOWN);
        Due.is("image() of a new object", x.image(), IslandThatLeans.STATE);
        Due.is("restore() of a new object", x.restore(), IslandThatLeans.STATE);
        Due.is("leans(0, 0) of a new object", x.leans(0, 0), 0);
        Due.is("wet(7) of a new object", x.wet(7), 0);
        Due.is("blank() of a new object", x.blank(), 0);
    }

    private static void promise2Letters() {
        IslandThatLeans x = new IslandThatLeans();
        Due.is("letters(0)", x.letters(0), 0);
        Due.is("letters of 12/34", x.letters(Due.packed("12/34")), 5);
        Due.is("letters(0) behind five", x.letters(0), 5);
        Due.is("plan() of 12/34", x.plan(), 4);
        for (int square = 0; square < 4; square++) {
            Due.is("height of square " + square + " of 12/34", x.square(square, 0), square + 1);
        }
        Due.is("eight letters", x.letters(Due.packed("abcdefgh")), 8);
        Due.is("a letter of code 126", x.letters(126), 9);
        Due.is("a letter of code 1", x.letters(1), 10);
        Due.is("eight letters of code 126", x.letters(0x7E7E7E7E7E7E7E7EL), 18);
    }

    private static void promise2LettersRefused() {
        IslandThatLeans x = new IslandThatLeans();
        x.letters(Due.packed("ab"));
        Due.is("a letter of code 127", x.letters(127), IslandThatLeans.OUTSIDE);
        Due.is("a letter of code 128", x.letters(128), IslandThatLeans.OUTSIDE);
        Due.is("a letter of code 255", x.letters(255), IslandThatLeans.OUTSIDE);
        Due.is("letters(-1)", x.letters(-1), IslandThatLeans.OUTSIDE);
        Due.is("an eighth letter of code 128", x.letters(Long.MIN_VALUE), IslandThatLeans.OUTSIDE);
        Due.is("a byte behind a first 0", x.letters(0x6100L), IslandThatLeans.OUTSIDE);
        Due.is("a byte behind a second 0", x.letters(0x620061L), IslandThatLeans.OUTSIDE);
        Due.is("an eighth byte behind a 0", x.letters(0x6100000000000061L), IslandThatLeans.OUTSIDE);
        Due.is("count(4) behind refusals", x.count(4), 2);
        Due.write(x, "cdefghijklmnopqrstuvwxyzABCDEFGHIJKL");
        Due.is("count(4)", x.count(4), 38);
        Due.is("three letters behind 38", x.letters(Due.packed("xyz")), IslandThatLeans.FULL);
        Due.is("count(4) behind FULL", x.count(4), 38);
        Due.is("two letters behind 38", x.letters(Due.packed("xy")), 40);
        Due.is("no letter behind 40", x.letters(0), 40);
        Due.is("a letter behind 40", x.letters(97), IslandThatLeans.FULL);
        Due.is("OUTSIDE ahead of FULL", x.letters(127), IslandThatLeans.OUTSIDE);
        Due.is("count(4) at last", x.count(4), 40);
    }

    private static void promise3Blank() {
        IslandThatLeans x = new IslandThatLeans();
        Due.write(x, "../..abcde");
        Due.is("blank()", x.blank(), 10);
        Due.is("blank() again", x.blank(), 0);
        Due.is("letters behind blank()", x.letters(Due.packed("../..")), 5);
        Due.is("plan() behind blank()", x.plan(), 4);
        Due.is("blank() behind plan()", x.blank(), 0);
    }

    private static void promise4FaultOfAPlan() {
        fault(0, "", 0);
        fault(0, ".", 1);
        fault(0, "./", 1);
        fault(0, "/", 0);
        fault(0, "..", 2);
        fault(0, "0.", 0);
        fault(0, ".0", 1);
        fault(0, "19", 2);
        fault(0, ".:", 1);
        fault(0, ".a", 1);
        fault(0, "../", 3);
        fault(0, "..//", 3);
        fault(0, "../.", 4);
        fault(0, "../..", 5);
        fault(0, "../...", 5);
        fault(0, ".../../", 6);
        fault(0, "../../../../..", 14);
        fault(0, "../../../../../", 14);
        fault(0, "../../../../...", 14);
        fault(0, "......", 6);
        fault(0, ".......", 6);
        fault(0, "....../......", 13);
        fault(0, "....../......./", 13);
        fault(0, "....../....../....../....../......", 34);
        fault(0, "....../....../....../....../....../", 34);
        fault(0, "n", 0);
    }

    private static void promise4FaultOfAWay() {
        fault(1, "", 0);
        fault(1, "nesw", 4);
        fault(1, "nesN", 3);
        fault(1, ".", 0);
        fault(1, "n.e", 1);
        fault(1, "nnnnnnn", 7);
        fault(1, "nnnnnnnn", 7);
        fault(1, "eeeeeeeeeeee", 7);
        fault(1, "sw/ne", 2);
        fault(1, "neswnea", 6);
        IslandThatLeans x = new IslandThatLeans();
        Due.is("fault(2)", x.fault(2), IslandThatLeans.OUTSIDE);
        Due.is("fault(-1)", x.fault(-1), IslandThatLeans.OUTSIDE);
    }

    private static void fault(int sort, String text, int want) {
        IslandThatLeans x = new IslandThatLeans();
        Due.write(x, text);
        Due.is("fault(" + sort + ") of " + text, x.fault(sort), want);
        Due.is("letters behind fault()", x.count(4), text.length());
    }

    private static void promise5Plan() {
        plan("../..", 4);
        plan("12/..", 4);
        plan("....../......", 12);
        plan("../../../../..", 10);
        plan("....../....../....../....../.....9", 30);
    }

    private static void plan(String text, int want) {
        IslandThatLeans x = new IslandThatLeans();
        Due.write(x, text);
        Due.is("plan() of " + text, x.plan(), want);
        Due.is("squares of " + text, x.count(0), want);
        Due.is("letters behind plan()", x.count(4), 0);
        Due.is("plans read", x.count(5), 1);
    }

    private static void promise5NoPlan() {
        String[] none = {"", ".", "..", "../", "../.", "./.", "../.../", "../..a", "../../", "a",
            "../../../../../..", "......./.......", "nesw"};
        for (String text : none) {
            IslandThatLeans x = Due.planned("1./..");
            x.thing(1, 5, 3);
            Due.write(x, text);
            Due.is("plan() of " + text, x.plan(), IslandThatLeans.STATE);
            Due.is("letters behind no plan", x.count(4), text.length());
            Due.is("squares behind no plan", x.count(0), 4);
            Due.is("doors behind no plan", x.count(1), 1);
            Due.is("things behind no plan", x.count(2), 1);
            Due.is("plans read behind no plan", x.count(5), 1);
        }
    }

    private static void promise5AnotherPlan() {
        IslandThatLeans x = Due.planned("11/11");
        x.thing(1, 5, 3);
        x.thing(3, 5, 2);
        Due.write(x, ".../..2");
        Due.is("plan() of another", x.plan(), 6);
        Due.is("things behind another plan", x.count(2), 0);
        Due.is("people behind another plan", x.count(3), 0);
        Due.is("doors behind another plan", x.count(1), 1);
        Due.is("about() behind another plan", x.about(0, 0), IslandThatLeans.UNKNOWN);
        Due.is("height behind another plan", x.square(0, 0), 0);
        Due.is("east behind another plan", x.square(0, 1), -2);
        Due.is("leans behind another plan", x.leans(0, 0), 0);
        Due.is("plans read", x.count(5), 2);
        Due.is("the first thing again", x.thing(0, 1, 5), 0);
    }

    private static void promise6Square() {
        IslandThatLeans x = Due.planned("1.9./...2/.5..");
        int[] heights = {1, 0, 9, 0, 0, 0, 0, 2, 0, 5, 0, 0};
        int[] easts = {-3, -1, 1, 3};
        int[] souths = {-2, 0, 2};
        for (int square = 0; square < 12; square++) {
            Due.is("height of " + square, x.square(square, 0), heights[square]);
            Due.is("east of " + square, x.square(square, 1), easts[square % 4]);
            Due.is("south of " + square, x.square(square, 2), souths[square / 4]);
        }
        Due.is("square(-1, 0)", x.square(-1, 0), -100101);
        Due.is("square(12, 0)", x.square(12, 0), -100101);
        Due.is("square(0, -1)", x.square(0, -1), -100102);
        Due.is("square(0, 3)", x.square(0, 3), -100102);
        Due.is("square(12, 3)", x.square(12, 3), -100101);
        IslandThatLeans odd = Due.planned("...../.....");
        Due.is("east of the last of five columns", odd.square(4, 1), 4);
        Due.is("south of the first of two rows", odd.square(4, 2), -1);
        IslandThatLeans large = Due.planned("....../....../....../....../......");
        Due.is("east of the last square", large.square(29, 1), 5);
        Due.is("south of the last square", large.square(29, 2), 4);
    }
}
