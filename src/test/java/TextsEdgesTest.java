/** Promises 1 to 6: a test for each sentence of the document that names a boundary. */
public final class TextsEdgesTest {
    private static final int OUTSIDE = IslandThatLeans.OUTSIDE;
    private static final int STATE = IslandThatLeans.STATE;
    private static final int FULL = IslandThatLeans.FULL;
    private static final String SQUARE_SIGNS = ".123456789";

    public static void main(String[] args) {
        newObjectHasNoPlan();
        newObjectIsApartFromOthers();
        lettersComeLowestByteFirst();
        lettersEndAtAZero();
        lettersOfNothing();
        lettersOfEveryCode();
        lettersByteAbove126InEachPlace();
        lettersByteBehindAZero();
        lettersUpTo40();
        lettersAbove40();
        blankOfAnEmptyPage();
        blankOfAFullPage();
        blankLeavesThePlan();
        faultOfNoLetters();
        faultOfAFirstLetterOfEveryCode();
        faultOfALaterLetterOfEveryCode();
        faultOfRowsOfOneSquare();
        faultOfASeventhSquare();
        faultOfRowsOfUnlikeLengths();
        faultOfASixthRow();
        faultWhereThereIsNone();
        faultOfAWayOfSevenAndEightLetters();
        faultOfAWayByItsLettersAlone();
        faultOfAFullPage();
        faultOfAnotherSort();
        planOfEachSize();
        planOfOneRow();
        planOfSixRows();
        planOfOneSquareARow();
        planOfSevenSquaresARow();
        planOfRowsOfUnlikeLengths();
        planOfAnEmptyPage();
        planOfALetterThatIsNone();
        planThatIsNoneChangesNothing();
        planIsGoneWithAllThings();
        planOfTheSameText();
        squaresAreNumberedRowByRow();
        squareEastAndSouthOfEachSize();
        squareHeightsOneToNine();
        squareUnknown();
        squareOutside();
        squareUnknownAheadOfOutside();
        Due.end();
    }

    // Promise 1: "No PLAN."; "Without a PLAN there are no SQUARES".
    private static void newObjectHasNoPlan() {
        IslandThatLeans x = new IslandThatLeans();
        Due.is("squares of a new object", x.count(0), 0);
        Due.is("a square of a new object", x.square(0, 0), -100101);
        Due.is("plan() of a new object", x.plan(), STATE);
        Due.is("letters of a new object", x.blank(), 0);
        Due.is("image() of a new object", x.image(), STATE);
        Due.is("restore() of a new object", x.restore(), STATE);
        for (int quarter = 0; quarter < 8; quarter++) {
            Due.is("leans to the east without a plan", x.leans(quarter, 0), 0);
            Due.is("leans to the south without a plan", x.leans(quarter, 1), 0);
            Due.is("wet without a plan", x.wet(quarter), 0);
        }
    }

    private static void newObjectIsApartFromOthers() {
        IslandThatLeans one = Due.planned("11/11");
        one.thing(3, 99, 0);
        one.trades(0, 0);
        one.stones(0);
        Due.write(one, "abc");
        IslandThatLeans other = new IslandThatLeans();
        for (int what = 0; what < 8; what++) {
            Due.is("count(" + what + ") of another new object", other.count(what), 0);
        }
        Due.is("things of the one", one.count(2), 1);
        Due.is("letters of the one", one.count(4), 3);
    }

    // Promise 2: "up to eight, told by their codes in the bytes of w, the lowest byte first".
    private static void lettersComeLowestByteFirst() {
        IslandThatLeans x = new IslandThatLeans();
        Due.is("eight letters", x.letters(0x36352F34332F3231L), 8);
        Due.is("plan() of 12/34/56", x.plan(), 6);
        for (int square = 0; square < 6; square++) {
            Due.is("height of " + square + " of 12/34/56", x.square(square, 0), square + 1);
        }
    }

    // "until a byte that is 0".
    private static void lettersEndAtAZero() {
        for (int many = 1; many <= 8; many++) {
            IslandThatLeans x = new IslandThatLeans();
            Due.is(many + " letters", x.letters(Due.packed("abcdefgh".substring(0, many))), many);
            Due.is("count(4) behind " + many, x.count(4), many);
            Due.is("as many again", x.letters(Due.packed("abcdefgh".substring(0, many))), 2 * many);
        }
    }

    private static void lettersOfNothing() {
        IslandThatLeans x = new IslandThatLeans();
        Due.is("letters(0) on an empty page", x.letters(0L), 0);
        x.letters('a');
        Due.is("letters(0) behind one", x.letters(0L), 1);
    }

    // "OUTSIDE: a byte above 126": 1 to 126 come, 127 to 255 do not.
    private static void lettersOfEveryCode() {
        for (int code = 1; code <= 255; code++) {
            IslandThatLeans x = new IslandThatLeans();
            Due.is("a letter of code " + code, x.letters(code), code <= 126 ? 1 : OUTSIDE);
            Due.is("letters behind code " + code, x.count(4), code <= 126 ? 1 : 0);
        }
    }

    private static void lettersByteAbove126InEachPlace() {
        for (int place = 0; place < 8; place++) {
            String ahead = "aaaaaaa".substring(0, place);
            Due.is("126 in place " + place, new IslandThatLeans().letters(Due.packed(ahead + (char) 126)), place + 1);
            IslandThatLeans x = Due.lettered("b");
            for (int code : new int[] {127, 128, 129, 192, 254, 255}) {
                Due.is(code + " in place " + place, x.letters(Due.packed(ahead + (char) code)), OUTSIDE);
                Due.is(code + " in place " + place + " ahead of others",
                        x.letters(Due.packed("aaaaaaaa".substring(0, place) + (char) code + "aaaaaaa".substring(place))), OUTSIDE);
            }
            Due.is("letters behind those", x.count(4), 1);
        }
    }

    // "or one behind a 0 that is not 0".
    private static void lettersByteBehindAZero() {
        IslandThatLeans x = Due.lettered("b");
        for (int zero = 0; zero < 7; zero++) {
            for (int behind = zero + 1; behind < 8; behind++) {
                long ahead = Due.packed("aaaaaaa".substring(0, zero));
                Due.is("1 in " + behind + ", 0 in " + zero, x.letters(ahead | 1L << 8 * behind), OUTSIDE);
                Due.is("126 in " + behind + ", 0 in " + zero, x.letters(ahead | 126L << 8 * behind), OUTSIDE);
                Due.is("200 in " + behind + ", 0 in " + zero, x.letters(ahead | 200L << 8 * behind), OUTSIDE);
            }
        }
        Due.is("letters behind those", x.count(4), 1);
    }

    // "FULL: above 40".
    private static void lettersUpTo40() {
        IslandThatLeans x = new IslandThatLeans();
        for (int many = 8; many <= 40; many += 8) {
            Due.is("letters by eights", x.letters(Due.packed("abcdefgh")), many);
        }
        IslandThatLeans y = new IslandThatLeans();
        for (int many = 1; many <= 40; many++) {
            Due.is("letters one by one", y.letters('a'), many);
        }
        Due.is("a letter behind 40", y.letters('a'), FULL);
        Due.is("no letter behind 40", y.letters(0L), 40);
    }

    private static void lettersAbove40() {
        for (int come = 1; come <= 8; come++) {
            IslandThatLeans x = Due.lettered("a".repeat(41 - come));
            long before = x.digest();
            Due.is(come + " that make 41", x.letters(Due.packed("bbbbbbbb".substring(0, come))), FULL);
            Due.is("none of them came", x.digest(), before);
            Due.is(come - 1 + " that make 40", x.letters(Due.packed("bbbbbbbb".substring(0, come - 1))), 40);
            Due.is("OUTSIDE ahead of FULL", x.letters(127L), OUTSIDE);
            Due.is("OUTSIDE behind a 0 ahead of FULL", x.letters(0x6100L), OUTSIDE);
        }
    }

    // Promise 3: "THE PAGE is empty: how many letters it had."
    private static void blankOfAnEmptyPage() {
        IslandThatLeans x = new IslandThatLeans();
        Due.is("blank() of no letters", x.blank(), 0);
        x.letters('a');
        Due.is("blank() of one letter", x.blank(), 1);
        Due.is("blank() of none again", x.blank(), 0);
        Due.is("letters behind blank()", x.count(4), 0);
    }

    private static void blankOfAFullPage() {
        IslandThatLeans x = Due.lettered("a".repeat(40));
        Due.is("blank() of 40 letters", x.blank(), 40);
        Due.is("40 letters again", Due.write(x, "../..".repeat(8)), 40);
        Due.is("blank() of 40 letters again", x.blank(), 40);
        Due.write(x, "../.2");
        Due.is("plan() behind blank()", x.plan(), 4);
    }

    private static void blankLeavesThePlan() {
        IslandThatLeans x = Due.planned("1./..");
        x.thing(1, 30, 0);
        long before = x.digest();
        Due.write(x, "abc");
        x.blank();
        Due.is("digest() behind letters that are gone", x.digest(), before);
    }

    // Promise 4: "how many letters it has, if there is none".
    private static void faultOfNoLetters() {
        IslandThatLeans x = new IslandThatLeans();
        Due.is("fault(0) of no letters", x.fault(0), 0);
        Due.is("fault(1) of no letters", x.fault(1), 0);
        IslandThatLeans y = Due.planned("../..");
        Due.is("fault(0) of no letters with a plan", y.fault(0), 0);
        Due.is("fault(1) of no letters with a plan", y.fault(1), 0);
    }

    // "The place (from 0) of the first letter of THE PAGE that no PLAN (sort 0), way (1) has there".
    private static void faultOfAFirstLetterOfEveryCode() {
        for (char code = 1; code <= 126; code++) {
            IslandThatLeans x = Due.lettered(String.valueOf(code));
            Due.is("fault(0) of code " + (int) code, x.fault(0), SQUARE_SIGNS.indexOf(code) >= 0 ? 1 : 0);
            Due.is("fault(1) of code " + (int) code, x.fault(1), "nesw".indexOf(code) >= 0 ? 1 : 0);
        }
    }

    // "behind those ahead of it".
    private static void faultOfALaterLetterOfEveryCode() {
        for (char code = 1; code <= 126; code++) {
            boolean isSquare = SQUARE_SIGNS.indexOf(code) >= 0;
            fault(0, "." + code, isSquare ? 2 : 1);
            fault(0, ".." + code, isSquare || code == '/' ? 3 : 2);
            fault(0, "......" + code, code == '/' ? 7 : 6);
            fault(0, ".../" + code, isSquare ? 5 : 4);
            fault(0, ".../.." + code, isSquare ? 7 : 6);
            fault(0, ".../..." + code, code == '/' ? 8 : 7);
            fault(0, "../../../../.." + code, 14);
            fault(1, "nesw" + code + "n", "nesw".indexOf(code) >= 0 ? 6 : 4);
        }
    }

    private static void fault(int sort, String text, int want) {
        IslandThatLeans x = Due.lettered(text);
        Due.is("fault(" + sort + ") of " + text, x.fault(sort), want);
        Due.is("fault(" + sort + ") of " + text + " again", x.fault(sort), want);
        Due.is("letters behind fault()", x.count(4), text.length());
    }

    // "each of two to six SQUARES".
    private static void faultOfRowsOfOneSquare() {
        fault(0, "/", 0);
        fault(0, "./", 1);
        fault(0, "./.", 1);
        fault(0, "../", 3);
        fault(0, "..//", 3);
        fault(0, "../.", 4);
        fault(0, "../..//", 6);
    }

    private static void faultOfASeventhSquare() {
        fault(0, "......", 6);
        fault(0, ".......", 6);
        fault(0, "1234567", 6);
        fault(0, "....../.......", 13);
    }

    // "(all as many)".
    private static void faultOfRowsOfUnlikeLengths() {
        fault(0, ".../../", 6);
        fault(0, ".../.../../", 10);
        fault(0, "../...", 5);
        fault(0, "../../...", 8);
        fault(0, "....../...../", 12);
        fault(0, "...../......", 11);
    }

    // "two to five ROWS".
    private static void faultOfASixthRow() {
        for (int columns = 2; columns <= 6; columns++) {
            String whole = Due.page(5, columns, '.');
            fault(0, whole, whole.length());
            fault(0, whole + "/", whole.length());
            fault(0, whole + "/.", whole.length());
            fault(0, whole + ".", whole.length());
        }
    }

    private static void faultWhereThereIsNone() {
        String whole = Due.page(5, 6, '9');
        for (int many = 1; many <= whole.length(); many++) {
            fault(0, whole.substring(0, many), many);
        }
    }

    // "one to seven letters".
    private static void faultOfAWayOfSevenAndEightLetters() {
        String way = "nnessww";
        for (int many = 1; many <= 7; many++) {
            fault(1, way.substring(0, many), many);
        }
        for (char code : "nesw./a".toCharArray()) {
            fault(1, way + code, 7);
        }
        fault(1, way.repeat(5), 7);
        fault(1, "nnesswa", 6);
        fault(1, "Nnessww", 0);
    }

    // "(a way by its letters alone)": whether it leaves the island, or there is one, is not asked.
    private static void faultOfAWayByItsLettersAlone() {
        fault(1, "nnnnnnn", 7);
        IslandThatLeans x = Due.planned("../..");
        Due.write(x, "wwwwwww");
        Due.is("fault(1) of a way off the island", x.fault(1), 7);
    }

    private static void faultOfAFullPage() {
        fault(0, ".".repeat(40), 6);
        fault(0, Due.page(5, 6, '.') + "......", 34);
        fault(0, "a".repeat(40), 0);
        fault(1, "n".repeat(40), 7);
    }

    // "OUTSIDE": another sort.
    private static void faultOfAnotherSort() {
        for (String text : new String[] {"", "n", "../.."}) {
            IslandThatLeans x = Due.lettered(text);
            for (int sort : new int[] {-1, 2, 3, Integer.MIN_VALUE, Integer.MAX_VALUE}) {
                Due.is("fault(" + sort + ") of " + text, x.fault(sort), OUTSIDE);
            }
        }
    }

    // Promise 5, with "two to five ROWS ..., each of two to six SQUARES (all as many)".
    private static void planOfEachSize() {
        for (int rows = 2; rows <= 5; rows++) {
            for (int columns = 2; columns <= 6; columns++) {
                IslandThatLeans x = Due.lettered(Due.page(rows, columns, '3'));
                Due.is("plan() of " + rows + " by " + columns, x.plan(), rows * columns);
                Due.is("squares of it", x.count(0), rows * columns);
                Due.is("doors of it", x.count(1), rows * columns);
                Due.is("letters behind plan()", x.count(4), 0);
                Due.is("plans read", x.count(5), 1);
            }
        }
    }

    private static void noPlan(String text) {
        IslandThatLeans x = Due.lettered(text);
        Due.is("plan() of " + text, x.plan(), STATE);
        Due.is("squares behind " + text, x.count(0), 0);
        Due.is("letters behind " + text, x.count(4), text.length());
        Due.is("plans read behind " + text, x.count(5), 0);
    }

    private static void planOfOneRow() {
        for (int columns = 1; columns <= 7; columns++) {
            noPlan(Due.page(1, columns, '.'));
            noPlan(Due.page(1, columns, '.') + "/");
        }
    }

    private static void planOfSixRows() {
        for (int columns = 1; columns <= 5; columns++) {
            noPlan(Due.page(6, columns, '.'));
        }
    }

    private static void planOfOneSquareARow() {
        for (int rows = 2; rows <= 6; rows++) {
            noPlan(Due.page(rows, 1, '.'));
        }
    }

    private static void planOfSevenSquaresARow() {
        for (int rows = 2; rows <= 5; rows++) {
            noPlan(Due.page(rows, 7, '.'));
        }
    }

    private static void planOfRowsOfUnlikeLengths() {
        for (int rows = 2; rows <= 5; rows++) {
            for (int columns = 2; columns <= 6; columns++) {
                String all = Due.page(rows, columns, '.');
                for (int place = 0; place < all.length(); place++) {
                    // A letter less, or one more, in each row.
                    noPlan(all.substring(0, place) + all.substring(place + 1));
                    noPlan(all.substring(0, place) + "." + all.substring(place));
                }
                noPlan(all + "/");
            }
        }
    }

    private static void planOfAnEmptyPage() {
        noPlan("");
        IslandThatLeans x = Due.planned("../..");
        Due.is("plan() again, of the page that is empty now", x.plan(), STATE);
        Due.is("squares stay", x.count(0), 4);
        Due.is("plans read stay", x.count(5), 1);
    }

    private static void planOfALetterThatIsNone() {
        for (char code : "0:-aA ,~\u0001".toCharArray()) {
            for (int place = 0; place < 8; place++) {
                noPlan("../../..".substring(0, place) + code + "../../..".substring(place + 1));
            }
        }
    }

    private static void planThatIsNoneChangesNothing() {
        for (String text : new String[] {"", "..", "..../...", "../../../../../..", "n", "......./......."}) {
            IslandThatLeans x = Due.planned("1./.2");
            x.thing(3, 20, 0);
            x.image();
            Due.write(x, text);
            long before = x.digest();
            Due.is("plan() of " + text, x.plan(), STATE);
            Due.is("digest() behind no plan", x.digest(), before);
            Due.is("east of the last square", x.square(3, 1), 1);
            Due.is("restore() behind no plan", x.restore(), 1);
        }
    }

    // "(another one is gone, with all THINGS)".
    private static void planIsGoneWithAllThings() {
        IslandThatLeans x = Due.planned("111/111");
        for (int number = 0; number < 8; number++) {
            x.thing(number % 5, 99, number % 6);
        }
        Due.write(x, "../.9");
        Due.is("plan() of a smaller one", x.plan(), 4);
        Due.is("squares", x.count(0), 4);
        Due.is("square 4 is gone", x.square(4, 0), -100101);
        Due.is("doors", x.count(1), 1);
        Due.is("height of 0", x.square(0, 0), 0);
        Due.is("height of 3", x.square(3, 0), 9);
        Due.is("east of 1", x.square(1, 1), 1);
        Due.is("things", x.count(2), 0);
        Due.is("people", x.count(3), 0);
        Due.is("thing 0", x.about(0, 0), IslandThatLeans.UNKNOWN);
        Due.is("leans", x.leans(0, 0), 0);
        Due.is("a thing again", x.thing(4, 1, 3), 0);
        Due.is("its kind", x.about(0, 0), 4);
    }

    private static void planOfTheSameText() {
        IslandThatLeans x = Due.planned("1./..");
        x.thing(1, 30, 0);
        Due.write(x, "1./..");
        Due.is("plan() of the same text", x.plan(), 4);
        Due.is("things", x.count(2), 0);
        Due.is("plans read", x.count(5), 2);
        Due.is("wet doors", x.wet(0), 0);
    }

    // "numbered row by row from 0".
    private static void squaresAreNumberedRowByRow() {
        IslandThatLeans x = Due.planned("12.3/4..5/678.");
        int[] heights = {1, 2, 0, 3, 4, 0, 0, 5, 6, 7, 8, 0};
        for (int square = 0; square < 12; square++) {
            Due.is("height of " + square, x.square(square, 0), heights[square]);
        }
    }

    // "twice its column (from 0) less how many columns there are but one".
    private static void squareEastAndSouthOfEachSize() {
        int[][] from = {{}, {}, {-1, 1}, {-2, 0, 2}, {-3, -1, 1, 3}, {-4, -2, 0, 2, 4}, {-5, -3, -1, 1, 3, 5}};
        for (int rows = 2; rows <= 5; rows++) {
            for (int columns = 2; columns <= 6; columns++) {
                IslandThatLeans x = Due.planned(Due.page(rows, columns, '.'));
                for (int square = 0; square < rows * columns; square++) {
                    String of = " of " + square + " in " + rows + " by " + columns;
                    Due.is("east" + of, x.square(square, 1), from[columns][square % columns]);
                    Due.is("south" + of, x.square(square, 2), from[rows][square / columns]);
                }
            }
        }
    }

    // "'.' a field, '1' to '9' a DOOR of that HEIGHT"; "(0: a field)".
    private static void squareHeightsOneToNine() {
        IslandThatLeans x = Due.planned(".1234/56789");
        for (int square = 0; square < 10; square++) {
            Due.is("height of " + square, x.square(square, 0), square);
        }
        Due.is("doors", x.count(1), 9);
    }

    // Promise 6: "-100101: UNKNOWN; -100102: OUTSIDE."
    private static void squareUnknown() {
        for (int columns = 2; columns <= 6; columns++) {
            IslandThatLeans x = Due.planned(Due.page(5, columns, '1'));
            Due.is("the last square", x.square(5 * columns - 1, 0), 1);
            for (int square : new int[] {-1, 5 * columns, 31, 32, Integer.MIN_VALUE, Integer.MAX_VALUE}) {
                for (int what = 0; what < 3; what++) {
                    Due.is("square(" + square + ", " + what + ")", x.square(square, what), -100101);
                }
            }
        }
    }

    private static void squareOutside() {
        IslandThatLeans x = Due.planned("../..");
        for (int what : new int[] {-1, 3, 10, Integer.MIN_VALUE, Integer.MAX_VALUE}) {
            Due.is("square(3, " + what + ")", x.square(3, what), -100102);
        }
    }

    private static void squareUnknownAheadOfOutside() {
        IslandThatLeans x = Due.planned("../..");
        Due.is("square(4, 3)", x.square(4, 3), -100101);
        Due.is("square(-1, -1)", x.square(-1, -1), -100101);
        Due.is("square(0, 3) without a plan", new IslandThatLeans().square(0, 3), -100101);
    }
}
