/** Promises 20 to 28: for each sentence of the document on records that names an edge, a test of its own. */
public final class RecordEdgesTest {
    private static final int BAD = -1, FULL = -2, NONE = -3;
    private static final int CAST = 1, OWN = 2, NULL = 3, INDEX = 4, ZERO = 5;
    private static final int LEAST = Integer.MIN_VALUE, MOST = Integer.MAX_VALUE;

    public static void main(String[] args) {
        shapes0To5();
        placesOfRecords0To9();
        parts5AtMost();
        partsOfEachShapeApart();
        sorts0To4();
        numbersOfPartsByTheirSort();
        checks4AtMost();
        checkKinds0To5();
        checkPartsThatThereAre();
        checkBIsANumber();
        checkAIsOfItsSort();
        givenAtFirst();
        giveForParts0To4();
        giveAnyNumber();
        numbers0ToK();
        constantsOfKindK();
        twicesOfAnyKind();
        recordsOfShapeK();
        nothingForParts1To4();
        castAheadOfOwn();
        partByPart();
        checkByCheck();
        check0AtMost();
        check1Remainder();
        check2ItemAbove0();
        check2NoSuchItem();
        check3ItemsAtLeast();
        check4OrderBelow();
        check5PartIs();
        check5NoPart();
        check5NoNumber();
        checksOfNothing();
        recordWithoutParts();
        partsAsTheShapeHasThem();
        recordKeepsItsParts();
        failedMakeHoldsNothingNew();
        failedMakeIsAnAct();
        causeOfTheLatest();
        causeWhat0To1();
        toldOfParts();
        toldOfFamilies();
        toldOfNoRecord();
        takeOfParts();
        takeOfNothing();
        startedByTheFirstAct();
        startedByNoOther();
        startedAtTheLastAct();
        countWhat0To5();
        countOfAll();
        Due.end();
    }

    /** "SHAPES 0 .. 5" */
    private static void shapes0To5() {
        Edges.range("part of SHAPE", 0, 5, shape -> new ConstantKinds().part(shape, 0, 0), shape -> 0);
        Edges.range("check of SHAPE", 0, 5, shape -> numbersInAll().check(shape, 0, 0, 0), shape -> 0);
        Edges.range("make of SHAPE", 0, 5, shape -> numbersInAll().make(shape, 0), shape -> 0);
        for (int shape = 0; shape <= 5; shape++) {
            ConstantKinds x = numbersInAll();
            x.make(shape, 3);
            Due.same("its SHAPE", x.told(3, NONE), shape);
        }
    }

    /** "PLACES 0 .. 9" */
    private static void placesOfRecords0To9() {
        Edges.range("give of PLACE", 0, 9, place -> new ConstantKinds().give(0, 0, place), place -> 1);
        Edges.range("make at PLACE", 0, 9, place -> numbersInAll().make(2, place), place -> 0);
        Edges.range("told at PLACE", 0, 9, place -> rowInEachPlace().told(place, 0), place -> -6);
        Edges.range("told at PLACE its SHAPE", 0, 9, place -> rowInEachPlace().told(place, NONE), place -> 0);
        Edges.range("take from PLACE", 0, 9, place -> rowInEachPlace().take(place, 0, 5), place -> 4);
        Edges.range("take to PLACE", 0, 9, place -> rowInEachPlace().take(5, 0, place), place -> 4);
        for (int place = 0; place <= 9; place++) {
            ConstantKinds x = numbersInAll();
            x.make(2, place);
            Due.same("it holds a RECORD", x.family(place), 5);
            Due.same("no other does", x.count(4), 1);
        }
    }

    /** "PARTS (5 at most), numbered from 0", part(): "FULL" */
    private static void parts5AtMost() {
        for (int shape = 0; shape <= 5; shape++) {
            ConstantKinds x = new ConstantKinds();
            for (int p = 0; p < 5; p++) {
                Due.same("refused ahead of PART " + p, x.part(shape, 0, 1001), BAD);
                Due.same("PART " + p, x.part(shape, p, 0), p);
            }
            for (int sort = 0; sort <= 4; sort++) {
                Due.same("a sixth PART", x.part(shape, sort, 0), FULL);
            }
            Due.same("BAD ahead of FULL: SHAPE", x.part(6, 0, 0), BAD);
            Due.same("BAD ahead of FULL: sort", x.part(shape, 5, 0), BAD);
            Due.same("BAD ahead of FULL: k of 0", x.part(shape, 0, 1001), BAD);
            Due.same("BAD ahead of FULL: k of 1", x.part(shape, 1, 6), BAD);
            Due.same("BAD ahead of FULL: k of 4", x.part(shape, 4, -1), BAD);
            x.make(shape, 9);
            Due.same("the last PART", x.told(9, 4), -10);
            Due.same("no PART behind it", x.told(9, 5), BAD);
        }
    }

    private static void partsOfEachShapeApart() {
        ConstantKinds x = new ConstantKinds();
        for (int p = 0; p < 5; p++) {
            for (int shape = 0; shape <= 5; shape++) {
                Due.same("PART of its own SHAPE", x.part(shape, 0, 9), p);
            }
        }
        for (int c = 0; c < 4; c++) {
            for (int shape = 0; shape <= 5; shape++) {
                Due.same("CHECK of its own SHAPE", x.check(shape, 0, 0, 4), c);
            }
        }
    }

    /** part(): "BAD: .. sort" */
    private static void sorts0To4() {
        Edges.range("part of sort", 0, 4, sort -> new ConstantKinds().part(0, sort, 0), sort -> 0);
    }

    /** part(): "k (of 0: 0 .. 1000; 1: a KIND; 4: a SHAPE; 2, 3: not looked at)" */
    private static void numbersOfPartsByTheirSort() {
        Edges.range("k of a NUMBER", 0, 1000, k -> new ConstantKinds().part(3, 0, k), k -> 0);
        Edges.range("k of a CONSTANT", 0, 5, k -> new ConstantKinds().part(3, 1, k), k -> 0);
        Edges.range("k of a RECORD", 0, 5, k -> new ConstantKinds().part(3, 4, k), k -> 0);
        for (int k : new int[] {LEAST, -65536, -4, NONE, FULL, BAD, 0, 5, 6, 1000, 1001, MOST}) {
            Due.same("k of a TWICE: " + k, new ConstantKinds().part(3, 2, k), 0);
            Due.same("k of a ROW: " + k, new ConstantKinds().part(3, 3, k), 0);
        }
    }

    /** "CHECKS (4 at most), numbered from 0", check(): "FULL" */
    private static void checks4AtMost() {
        for (int shape = 0; shape <= 5; shape++) {
            ConstantKinds x = numbersInAll();
            for (int c = 0; c < 4; c++) {
                Due.same("refused ahead of CHECK " + c, x.check(shape, 6, 0, 0), BAD);
                Due.same("CHECK " + c, x.check(shape, 0, 0, 0), c);
            }
            Due.same("a fifth CHECK", x.check(shape, 0, 0, 0), FULL);
            Due.same("a fifth CHECK of another kind", x.check(shape, 1, 0, 0), FULL);
            Due.same("BAD ahead of FULL: SHAPE", x.check(6, 0, 0, 0), BAD);
            Due.same("BAD ahead of FULL: kind", x.check(shape, 6, 0, 0), BAD);
            Due.same("BAD ahead of FULL: a", x.check(shape, 0, 1, 0), BAD);
            Due.same("BAD ahead of FULL: b", x.check(shape, 0, 0, -1), BAD);
            Due.same("BAD ahead of FULL: the sort of a", x.check(shape, 2, 0, 0), BAD);
            Due.same("no CHECK of % by 0 came", x.make(shape, 0), 0);
        }
    }

    /** check(): "BAD: .. kind" */
    private static void checkKinds0To5() {
        int[] fits = {0, 0, 3, 3, 1, 4};
        Edges.range("check of kind", 0, 5,
                kind -> allSorts().check(0, kind, kind < 0 || kind > 5 ? 0 : fits[kind], 0), kind -> 0);
        for (int a = 0; a <= 4; a++) {
            for (int kind : new int[] {LEAST, -2, -1, 6, 7, MOST}) {
                Due.same("check of kind " + kind + ", a of sort " + a, allSorts().check(0, kind, a, 0), BAD);
            }
        }
    }

    /** check(): "BAD: .. no such PARTS" */
    private static void checkPartsThatThereAre() {
        for (int parts = 1; parts <= 5; parts++) {
            int size = parts;
            Edges.range("a of " + parts, 0, parts - 1, a -> numbersIn(2, size).check(2, 0, a, 0), a -> 0);
            Edges.range("b of " + parts, 0, parts - 1, b -> numbersIn(2, size).check(2, 0, 0, b), b -> 0);
            Edges.range("a and b of " + parts, 0, parts - 1, p -> numbersIn(2, size).check(2, 1, p, p), p -> 0);
        }
        Edges.none("a, b of no PARTS", p -> numbersIn(2, 5).check(3, 0, p, p));
    }

    /** "of which b is a NUMBER" */
    private static void checkBIsANumber() {
        int[] fits = {0, 0, 3, 3, 1, 4};
        for (int kind = 0; kind <= 5; kind++) {
            for (int b = 0; b <= 4; b++) {
                Due.same("kind " + kind + ", b of sort " + b, allSorts().check(0, kind, fits[kind], b),
                        b == 0 ? 0 : BAD);
            }
        }
    }

    /** "a too by 0, 1, a ROW by 2, 3, a CONSTANT or TWICE by 4, a RECORD by 5" */
    private static void checkAIsOfItsSort() {
        int[][] want = {
            {0, BAD, BAD, BAD, BAD},
            {0, BAD, BAD, BAD, BAD},
            {BAD, BAD, BAD, 0, BAD},
            {BAD, BAD, BAD, 0, BAD},
            {BAD, 0, 0, BAD, BAD},
            {BAD, BAD, BAD, BAD, 0},
        };
        for (int kind = 0; kind <= 5; kind++) {
            for (int a = 0; a <= 4; a++) {
                Due.same("kind " + kind + ", a of sort " + a, allSorts().check(0, kind, a, 0), want[kind][a]);
            }
        }
    }

    /** "GIVEN are a number and a PLACE for each PART 0 .. 4 (0, and PLACE 0, at first)" */
    private static void givenAtFirst() {
        ConstantKinds x = numbersIn(0, 5);
        x.row(0, 1);
        for (int p = 0; p < 5; p++) {
            x.part(1, 3, 0);
        }
        x.make(0, 8);
        x.make(1, 9);
        for (int p = 0; p < 5; p++) {
            Due.same("0 at first", x.told(8, p), 0);
            Due.same("PLACE 0 at first", x.told(9, p), -6);
        }
    }

    /** give(): "PART p (0 .. 4)" */
    private static void giveForParts0To4() {
        Edges.range("give for PART", 0, 4, p -> new ConstantKinds().give(p, 1, 1), p -> 1);
        for (int given = 0; given < 5; given++) {
            ConstantKinds x = numbersIn(0, 5);
            x.give(given, 1000, 9);
            x.give(-1, 7, 7);
            x.give(5, 7, 7);
            Due.same("a PLACE that is none", x.give(given, 7, 10), BAD);
            Due.same("a PLACE that is none", x.give(given, 7, -1), BAD);
            x.make(0, 8);
            for (int p = 0; p < 5; p++) {
                Due.same("given for " + given + ", told of " + p, x.told(8, p), p == given ? 1000 : 0);
            }
        }
    }

    private static void giveAnyNumber() {
        ConstantKinds x = numbersIn(0, 1);
        for (int v : new int[] {LEAST, LEAST + 1, NONE, FULL, BAD, 0, 1000, 1001, MOST}) {
            Due.same("give of " + v, x.give(0, v, 0), 1);
            Due.same("make with " + v, x.make(0, 1), v == 0 || v == 1000 ? 0 : OWN);
        }
    }

    /** "NUMBER (0 .. k", "OWN: a number that is not 0 .. k" */
    private static void numbers0ToK() {
        for (int k : new int[] {0, 1, 7, 999, 1000}) {
            for (int v : new int[] {LEAST, -65536, -2, -1, 0, 1, k - 1, k, k + 1, k + 256, k + 65536, MOST}) {
                ConstantKinds x = new ConstantKinds();
                x.part(4, 0, k);
                x.give(0, v, 0);
                boolean right = v >= 0 && v <= k;
                Due.same(v + " of 0 .. " + k, x.make(4, 1), right ? 0 : OWN);
                Due.same("why", x.cause(0), right ? 0 : OWN);
                Due.same("at which", x.cause(1), right ? NONE : 0);
                Due.same("told", x.told(1, 0), right ? v : BAD);
            }
        }
    }

    /** "CONSTANT (of KIND k)", "OWN: .. a CONSTANT of another KIND" */
    private static void constantsOfKindK() {
        for (int k = 0; k <= 5; k++) {
            for (int kind = 0; kind <= 5; kind++) {
                for (int body = 0; body <= 2; body++) {
                    ConstantKinds x = new ConstantKinds();
                    x.constant(kind, Due.name("a"), body);
                    x.hold(3, 0);
                    x.part(4, 1, k);
                    x.give(0, 0, 3);
                    Due.same("a CONSTANT of " + kind + " for " + k, x.make(4, 1), k == kind ? 0 : OWN);
                    Due.same("at which", x.cause(1), k == kind ? NONE : 0);
                }
            }
        }
    }

    /** "TWICE (a CONSTANT that is one, of any KIND)" */
    private static void twicesOfAnyKind() {
        for (int kind = 0; kind <= 5; kind++) {
            for (int body = 0; body <= 2; body++) {
                ConstantKinds x = new ConstantKinds();
                x.constant(kind, Due.name("a"), body);
                x.hold(3, 0);
                x.part(4, 2, 5 - kind);
                x.give(0, 0, 3);
                Due.same("a BODY " + body + " as a TWICE", x.make(4, 1), body == 0 ? CAST : 0);
                Due.same("told", x.told(1, 0), body == 0 ? BAD : -9 + body);
            }
        }
    }

    /** "RECORD (of SHAPE k)", "OWN: .. a RECORD of another SHAPE" */
    private static void recordsOfShapeK() {
        for (int k = 0; k <= 5; k++) {
            for (int shape = 0; shape <= 5; shape++) {
                ConstantKinds x = new ConstantKinds();
                x.make(shape, 3);
                x.part(4, 4, k);
                x.give(0, 0, 3);
                Due.same("a RECORD of " + shape + " for " + k, x.make(4, 1), k == shape ? 0 : OWN);
                Due.same("at which", x.cause(1), k == shape ? NONE : 0);
            }
        }
    }

    /** "those of 1 to 4 may be NOTHING" */
    private static void nothingForParts1To4() {
        for (int sort = 1; sort <= 4; sort++) {
            for (int k = 0; k <= 5; k++) {
                ConstantKinds x = new ConstantKinds();
                x.part(4, sort, k);
                Due.same("NOTHING for sort " + sort, x.make(4, 1), 0);
                Due.same("told", x.told(1, 0), -10);
                Due.same("taken", x.take(1, 0, 2), 0);
            }
        }
    }

    /** "1 CAST: that is no THING of this sort's class", asked ahead of KIND and SHAPE. */
    private static void castAheadOfOwn() {
        int[][] want = {
            // a PLAIN, a TWICE, a LESS of KIND 5, a ROW, a RECORD of SHAPE 5, NOTHING
            {OWN, OWN, OWN, CAST, CAST, 0},
            {CAST, 0, 0, CAST, CAST, 0},
            {CAST, CAST, CAST, 0, CAST, 0},
            {CAST, CAST, CAST, CAST, OWN, 0},
        };
        for (int sort = 1; sort <= 4; sort++) {
            for (int held = 0; held <= 5; held++) {
                ConstantKinds x = allThings();
                x.part(0, sort, 0);
                x.give(0, 0, held);
                Due.same("THING " + held + " for sort " + sort, x.make(0, 9), want[sort - 1][held]);
                Due.same("why", x.cause(0), want[sort - 1][held]);
            }
        }
    }

    /** "PART by PART": the first that fails is told, ahead of all CHECKS. */
    private static void partByPart() {
        for (int first = 0; first <= 4; first++) {
            ConstantKinds x = numbersIn(0, 5);
            x.check(0, 1, 4, 0);
            for (int p = 0; p < 5; p++) {
                x.give(p, p < first ? 0 : 1001, 0);
            }
            Due.same("the first PART that fails is " + first, x.make(0, 0), OWN);
            Due.same("at which", x.cause(1), first);
        }
    }

    /** "Then CHECK by CHECK": the first that fails is told. */
    private static void checkByCheck() {
        for (int first = 0; first <= 4; first++) {
            ConstantKinds x = numbersIn(0, 5);
            for (int c = 0; c < 4; c++) {
                x.check(0, 1, 4, c);
                x.give(c, c < first ? 1 : 0, 0);
            }
            Due.same("the first CHECK that fails is " + first, x.make(0, 0), first == 4 ? 0 : ZERO);
            Due.same("at which", x.cause(1), first == 4 ? NONE : 10 + first);
        }
    }

    /** "0 a is b at most." */
    private static void check0AtMost() {
        int[][] pairs = {{0, 0}, {1, 0}, {0, 1}, {6, 7}, {7, 7}, {8, 7}, {999, 1000}, {1000, 1000}, {1000, 999}};
        for (int[] pair : pairs) {
            ConstantKinds x = twoNumbers(0, pair[0], pair[1]);
            Due.same(pair[0] + " at most " + pair[1], x.make(0, 0), pair[0] <= pair[1] ? 0 : OWN);
            Due.same("at which", x.cause(1), pair[0] <= pair[1] ? NONE : 10);
        }
    }

    /** "1 a % b is 0.", "5 ZERO: % by 0" */
    private static void check1Remainder() {
        int[][] lines = {{0, 0, ZERO}, {1, 0, ZERO}, {1000, 0, ZERO}, {0, 1, 0}, {1, 1, 0}, {1000, 1, 0}, {0, 7, 0},
            {6, 7, OWN}, {7, 7, 0}, {8, 7, OWN}, {14, 7, 0}, {1, 2, OWN}, {999, 1000, OWN}, {1000, 1000, 0},
            {0, 1000, 0}, {1000, 999, OWN}};
        for (int[] line : lines) {
            ConstantKinds x = twoNumbers(1, line[0], line[1]);
            Due.same(line[0] + " % " + line[1], x.make(0, 0), line[2]);
            Due.same("at which", x.cause(1), line[2] == 0 ? NONE : 10);
        }
        ConstantKinds x = numbersIn(0, 1);
        x.check(0, 1, 0, 0);
        Due.same("0 % itself", x.make(0, 0), ZERO);
        x.give(0, 9, 0);
        Due.same("9 % itself", x.make(0, 0), 0);
    }

    /** "2 ITEM b of a is above 0." */
    private static void check2ItemAbove0() {
        for (int v : new int[] {LEAST, -2, -1, 0, 1, 2, MOST}) {
            for (int i : new int[] {0, 6, 11}) {
                ConstantKinds x = rowAndNumber(2, 12, i);
                x.item(0, i, v);
                Due.same("ITEM " + i + " is " + v, x.make(0, 9), v > 0 ? 0 : OWN);
                for (int other = 0; other < 12; other++) {
                    x.item(0, other, other == i ? v : v > 0 ? 0 : 1);
                }
                Due.same("the others do not matter", x.make(0, 9), v > 0 ? 0 : OWN);
            }
        }
    }

    /** "4 INDEX: there is no such ITEM (2)" */
    private static void check2NoSuchItem() {
        for (int n = 0; n <= 12; n++) {
            for (int b : new int[] {0, n - 1, n, n + 1, 12, 13, 1000}) {
                if (b >= 0) {
                    ConstantKinds x = rowAndNumber(2, n, b);
                    Due.same("ITEM " + b + " of " + n, x.make(0, 9), b < n ? OWN : INDEX);
                    Due.same("at which", x.cause(1), 10);
                }
            }
        }
    }

    /** "3 a has b ITEMS at least." */
    private static void check3ItemsAtLeast() {
        for (int n = 0; n <= 12; n++) {
            for (int b : new int[] {0, 1, n - 1, n, n + 1, 12, 13, 1000}) {
                if (b >= 0) {
                    ConstantKinds x = rowAndNumber(3, n, b);
                    Due.same(b + " ITEMS of " + n, x.make(0, 9), b <= n ? 0 : OWN);
                }
            }
        }
    }

    /** "4 the ORDER of a in BUILD 0 is below b." */
    private static void check4OrderBelow() {
        for (int sort = 1; sort <= 2; sort++) {
            ConstantKinds x = new ConstantKinds();
            x.constant(0, Due.name("ahead"), 0);
            for (int i = 0; i < 59; i++) {
                x.constant(3, Due.name("n" + (char) ('a' + i / 26) + (char) ('a' + i % 26)), 1);
            }
            x.arrange(59, 1);
            x.part(0, sort, 3);
            x.part(0, 0, 1000);
            x.check(0, 4, 0, 1);
            x.give(0, 0, 5);
            for (int order : new int[] {0, 1, 57, 58}) {
                x.hold(5, order + 1);
                for (int b : new int[] {0, 1, 2, 57, 58, 59, 60, 1000}) {
                    x.give(1, b, 0);
                    Due.same("ORDER " + order + " below " + b, x.make(0, 9), order < b ? 0 : OWN);
                }
            }
        }
    }

    /** "5 PART 0 of a, as a NUMBER, is b." */
    private static void check5PartIs() {
        for (int number : new int[] {0, 1, 7, 999, 1000}) {
            for (int b : new int[] {0, 1, number - 1, number, number + 1, 999, 1000}) {
                if (b >= 0 && b <= 1000) {
                    ConstantKinds x = recordAndNumber();
                    x.part(1, 0, 1000);
                    x.part(1, 0, 1000);
                    x.give(0, number, 0);
                    x.give(1, number == b ? 500 : b, 0);
                    x.make(1, 0);
                    x.give(1, b, 0);
                    Due.same("PART 0 is " + number + ", asked for " + b, x.make(0, 9), number == b ? 0 : OWN);
                }
            }
        }
    }

    /** "4 INDEX: .. a's SHAPE has no PART 0 (5)" */
    private static void check5NoPart() {
        for (int b : new int[] {0, 1, 1000}) {
            ConstantKinds x = recordAndNumber();
            x.make(1, 0);
            x.give(1, b, 0);
            Due.same("no PART 0", x.make(0, 9), INDEX);
            Due.same("at which", x.cause(1), 10);
            x.part(1, 0, 0);
            x.make(1, 0);
            Due.same("a PART 0 by now", x.make(0, 9), b == 0 ? 0 : OWN);
        }
    }

    /** "1 CAST: that is no NUMBER (5)", also if it is NOTHING. */
    private static void check5NoNumber() {
        for (int sort = 1; sort <= 4; sort++) {
            ConstantKinds x = recordAndNumber();
            x.part(1, sort, 0);
            x.part(1, 0, 1000);
            x.give(0, 0, 8);
            x.make(1, 0);
            x.give(0, 0, 0);
            Due.same("PART 0 of sort " + sort, x.make(0, 9), CAST);
            Due.same("why", x.cause(0), CAST);
            Due.same("at which", x.cause(1), 10);
        }
    }

    /** "3 NULL: a is NOTHING", whatever b is. */
    private static void checksOfNothing() {
        int[] sorts = {3, 3, 1, 4};
        for (int kind = 2; kind <= 5; kind++) {
            for (int b : new int[] {0, 1, 1000}) {
                ConstantKinds x = new ConstantKinds();
                x.part(0, sorts[kind - 2], 1);
                x.part(0, 0, 1000);
                x.check(0, kind, 0, 1);
                x.give(1, b, 0);
                Due.same("CHECK " + kind + " of NOTHING", x.make(0, 9), NULL);
                Due.same("why", x.cause(0), NULL);
                Due.same("at which", x.cause(1), 10);
                Due.same("nothing was made", x.family(9), 0);
            }
        }
        ConstantKinds x = new ConstantKinds();
        x.part(0, 2, 1);
        x.part(0, 0, 1000);
        x.check(0, 4, 0, 1);
        Due.same("CHECK 4 of no TWICE", x.make(0, 9), NULL);
    }

    /** "SHAPES without PARTS, CHECKS" at first: a RECORD of none of them can be made. */
    private static void recordWithoutParts() {
        for (int shape = 0; shape <= 5; shape++) {
            ConstantKinds x = new ConstantKinds();
            x.give(0, LEAST, 9);
            Due.same("a RECORD without PARTS", x.make(shape, 9), 0);
            Due.same("its SHAPE", x.told(9, NONE), shape);
            Due.same("no PART 0", x.told(9, 0), BAD);
            Due.same("nothing to take", x.take(9, 0, 8), BAD);
            Due.same("one made", x.count(3), 1);
        }
    }

    /** "PARTS, CHECKS are those that the SHAPE has as it is made" */
    private static void partsAsTheShapeHasThem() {
        ConstantKinds x = new ConstantKinds();
        for (int parts = 0; parts <= 5; parts++) {
            Due.same("make", x.make(0, parts), 0);
            x.part(0, 0, 9);
        }
        for (int parts = 0; parts <= 5; parts++) {
            Due.same("the last PART", x.told(parts, parts - 1), parts == 0 ? BAD : 0);
            Due.same("no PART behind it", x.told(parts, parts), BAD);
        }
        for (int c = 0; c < 4; c++) {
            x.check(0, 0, c, 4);
            Due.same("the CHECKS hold", x.make(0, 9), 0);
            x.give(c, 1, 0);
            Due.same("the last of the CHECKS does not", x.make(0, 9), OWN);
            Due.same("at which", x.cause(1), 10 + c);
            x.give(c, 0, 0);
        }
    }

    /** "a RECORD keeps its PARTS, but a ROW, RECORD in it are the same as where they came from" */
    private static void recordKeepsItsParts() {
        ConstantKinds x = new ConstantKinds();
        x.part(0, 0, 9);
        x.part(0, 3, 0);
        x.part(0, 4, 0);
        x.check(0, 3, 1, 0);
        x.row(5, 1);
        x.give(0, 1, 0);
        x.give(1, 0, 5);
        x.give(2, 0, 6);
        x.make(0, 7);
        x.give(2, 0, 7);
        x.make(0, 8);
        x.give(0, 9, 0);
        x.item(5, 0, 77);
        x.row(5, NONE);
        x.row(7, NONE);
        Due.same("its number", x.told(8, 0), 1);
        Due.same("its ROW", x.take(8, 1, 1), 4);
        Due.same("its RECORD", x.take(8, 2, 2), 5);
        Due.same("the RECORD's ROW", x.take(2, 1, 3), 4);
        Due.same("one ROW", x.item(1, 0, 78), 77);
        Due.same("one ROW", x.item(3, 0, 79), 78);
        Due.same("NOTHING in the inner RECORD", x.told(2, 2), -10);
    }

    /** make(): "the PLACE holds what it held" */
    private static void failedMakeHoldsNothingNew() {
        for (int held = 0; held <= 5; held++) {
            ConstantKinds x = allThings();
            x.part(0, 0, 0);
            x.give(0, 1, 0);
            x.share(9, held);
            int family = x.family(held);
            Due.same("it fails", x.make(0, held), OWN);
            Due.same("the PLACE holds what it held", x.family(held), family);
            Due.same("the same one", x.like(held, 9), 1);
            Due.same("no RECORD more", x.count(3), 1);
        }
    }

    /** "each call of .. make() that was not refused", also one that fails. */
    private static void failedMakeIsAnAct() {
        ConstantKinds x = new ConstantKinds();
        x.constant(1, Due.name("a"), 0);
        x.part(0, 0, 0);
        x.give(0, 1, 0);
        for (int i = 0; i < 3; i++) {
            Due.same("it fails", x.make(0, 0), OWN);
            Due.same("it is refused", x.make(6, 0), BAD);
            Due.same("it is refused", x.make(0, 10), BAD);
        }
        Due.same("three ACTS", x.count(1), 3);
        x.worth(0, 0);
        Due.same("the fourth", x.started(1), 3);
    }

    /** cause(): "Of the latest make()", "(0: it did not)", "(NONE)" */
    private static void causeOfTheLatest() {
        ConstantKinds x = twoNumbers(1, 5, 0);
        Due.same("ZERO", x.make(0, 0), ZERO);
        Due.same("why", x.cause(0), ZERO);
        Due.same("at which", x.cause(1), 10);
        x.make(6, 0);
        x.make(0, 10);
        x.part(1, 9, 9);
        Due.same("a refused one does not count", x.cause(0), ZERO);
        Due.same("a refused one does not count", x.cause(1), 10);
        x.give(1, 1001, 0);
        Due.same("OWN", x.make(0, 0), OWN);
        Due.same("why", x.cause(0), OWN);
        Due.same("at which", x.cause(1), 1);
        x.give(1, 5, 0);
        Due.same("it does not fail", x.make(0, 0), 0);
        Due.same("why", x.cause(0), 0);
        Due.same("at which", x.cause(1), NONE);
    }

    /** cause(): "what = 0 .., 1 .. BAD" */
    private static void causeWhat0To1() {
        ConstantKinds x = twoNumbers(1, 5, 0);
        x.check(0, 0, 0, 0);
        x.make(0, 0);
        Edges.range("cause", 0, 1, what -> x.cause(what), what -> what == 0 ? ZERO : 10);
    }

    /** told(): "its SHAPE (p = NONE)", "BAD: .. has no such PART" */
    private static void toldOfParts() {
        for (int parts = 1; parts <= 5; parts++) {
            ConstantKinds x = numbersIn(3, parts);
            for (int p = 0; p < parts; p++) {
                x.give(p, 1000 - p, 0);
            }
            x.make(3, 9);
            Edges.rangeOrNone("told of PARTS", 0, parts - 1, p -> x.told(9, p), p -> p == NONE ? 3 : 1000 - p);
        }
    }

    /** told(): "the FAMILY less 10 of a THING (so -10 .. -5)" */
    private static void toldOfFamilies() {
        int[] sorts = {1, 1, 1, 3, 4, 4};
        int[] want = {-9, -8, -7, -6, -5, -10};
        for (int held = 0; held <= 5; held++) {
            ConstantKinds x = allThings();
            x.part(0, sorts[held], 5);
            x.give(0, 0, held);
            Due.same("make", x.make(0, 9), 0);
            Due.same("FAMILY less 10", x.told(9, 0), want[held]);
            Due.same("taken", x.take(9, 0, 8), want[held] + 10);
        }
    }

    /** told(), take(): "it is no RECORD" */
    private static void toldOfNoRecord() {
        ConstantKinds x = allThings();
        for (int held : new int[] {0, 1, 2, 3, 5}) {
            for (int p = -4; p <= 5; p++) {
                Due.same("told of THING " + held, x.told(held, p), BAD);
                Due.same("take of THING " + held, x.take(held, p, 9), BAD);
            }
        }
        Due.same("nothing was taken", x.family(9), 0);
    }

    /** take(): "PART p of a RECORD, which is no NUMBER" */
    private static void takeOfParts() {
        for (int parts = 1; parts <= 5; parts++) {
            int size = parts;
            Edges.range("take of " + parts, 0, parts - 1, p -> rowsIn(size).take(9, p, 8), p -> 4);
        }
        ConstantKinds x = numbersIn(3, 5);
        x.make(3, 9);
        Edges.none("take of a NUMBER", p -> x.take(9, p, 8));
        for (int p = 2; p < 5; p++) {
            Due.same("take of a NUMBER", x.take(9, p, 8), BAD);
        }
        Due.same("nothing was taken", x.family(8), 0);
        Due.same("take of the SHAPE", x.take(9, NONE, 8), BAD);
    }

    /** take(): "its FAMILY", 0 of NOTHING, which the PLACE then holds. */
    private static void takeOfNothing() {
        ConstantKinds x = new ConstantKinds();
        x.part(0, 3, 0);
        x.make(0, 9);
        x.row(8, 3);
        Due.same("take of NOTHING", x.take(9, 0, 8), 0);
        Due.same("it holds NOTHING", x.family(8), 0);
        Due.same("one PLACE that holds a THING", x.count(4), 1);
    }

    /** "STARTED is a KIND by the first act that uses a CONSTANT of it" */
    private static void startedByTheFirstAct() {
        ConstantKinds x = new ConstantKinds();
        for (int kind = 0; kind <= 5; kind++) {
            x.constant(kind, Due.name("a"), 2);
            x.weigh(kind, 1);
        }
        for (int kind = 5; kind >= 0; kind--) {
            Due.same("not yet", x.started(kind), NONE);
            int answer = kind % 3 == 0 ? x.worth(kind, 50) : kind % 3 == 1 ? x.draw(kind, 0, 1, 0) : x.hold(9, kind);
            Due.same("the ACT", answer, kind % 3 == 0 ? 97 : kind);
            Due.same("started", x.started(kind), 5 - kind);
            Due.same("KINDS that were STARTED", x.count(5), 6 - kind);
        }
        for (int kind = 0; kind <= 5; kind++) {
            x.worth(kind, 0);
            x.draw(kind, 0, 1, 0);
            x.hold(9, kind);
            Due.same("started once", x.started(kind), 5 - kind);
        }
        Due.same("all KINDS", x.count(5), 6);
    }

    /** "telling, tables, orders, names start none" */
    private static void startedByNoOther() {
        ConstantKinds x = new ConstantKinds();
        x.constant(0, Due.name("a"), 1);
        x.constant(1, Due.name("a"), 1);
        x.hold(0, 1);
        x.weigh(0, 1);
        x.arrange(0, 1);
        x.shuffle(0, 1, 4);
        x.kind(0, 0, 0);
        x.named(0, Due.name("a"));
        x.order(0, 0);
        x.about(0, 0);
        x.table(0, 0);
        x.part(0, 1, 0);
        x.part(0, 2, 0);
        x.check(0, 4, 0, 0);
        x.give(0, 0, 3);
        x.make(0, 4);
        x.draw(0, 2, 1, 0);
        x.draw(0, 0, 1, -1);
        x.hold(10, 0);
        x.worth(2, 0);
        Due.same("none of these started it", x.started(0), NONE);
        Due.same("two ACTS", x.count(1), 2);
        Due.same("the KIND of the one that is held", x.started(1), 0);
    }

    /** ACTS of all calls that an object is good for. */
    private static void startedAtTheLastAct() {
        ConstantKinds x = new ConstantKinds();
        x.constant(0, Due.name("a"), 0);
        x.constant(1, Due.name("a"), 0);
        x.weigh(0, 1000);
        for (int call = 4; call <= 507; call++) {
            Due.same("draw", x.draw(0, 0, call, call), 0);
        }
        Due.same("the 508th call", x.hold(9, 1), 1);
        Due.same("the 509th call", x.started(1), 504);
        Due.same("the 510th call", x.count(1), 505);
        Due.same("the 511th call", x.count(2), 504);
        Due.same("the 512th call", x.about(0, 3), 504);
    }

    /** count(): "0 CONSTANTS, 1 ACTS, 2 DRAWS, 3 RECORDS made, 4 PLACES .., 5 KINDS .. BAD." */
    private static void countWhat0To5() {
        Edges.range("count at first", 0, 5, what -> new ConstantKinds().count(what), what -> 0);
        ConstantKinds x = allThings();
        int[] want = {3, 4, 0, 1, 5, 1};
        Edges.range("count", 0, 5, what -> x.count(what), what -> want[what]);
    }

    private static void countOfAll() {
        ConstantKinds x = new ConstantKinds();
        for (int i = 0; i < 200; i++) {
            Due.same("make", x.make(i % 6, i % 10), 0);
        }
        Due.same("RECORDS made", x.count(3), 200);
        Due.same("ACTS", x.count(1), 200);
        Due.same("PLACES", x.count(4), 10);
        Due.same("no KIND", x.count(5), 0);
        x.share(0, 1);
        x.row(2, NONE);
        Due.same("RECORDS made, though not held", x.count(3), 200);
    }

    /** Each SHAPE has a NUMBER 0 .. 1000. */
    private static ConstantKinds numbersInAll() {
        ConstantKinds x = new ConstantKinds();
        for (int shape = 0; shape <= 5; shape++) {
            x.part(shape, 0, 1000);
        }
        return x;
    }

    private static ConstantKinds numbersIn(int shape, int parts) {
        ConstantKinds x = new ConstantKinds();
        for (int p = 0; p < parts; p++) {
            x.part(shape, 0, 1000);
        }
        return x;
    }

    /** SHAPE 0 has a PART of each sort, numbered like the sort. */
    private static ConstantKinds allSorts() {
        ConstantKinds x = new ConstantKinds();
        for (int sort = 0; sort <= 4; sort++) {
            x.part(0, sort, 0);
        }
        return x;
    }

    /** SHAPE 0 has a ROW, and each PLACE a RECORD of it with one. */
    private static ConstantKinds rowInEachPlace() {
        ConstantKinds x = new ConstantKinds();
        x.part(0, 3, 0);
        for (int place = 9; place >= 0; place--) {
            x.row(0, 2);
            x.make(0, place);
        }
        return x;
    }

    /** PLACE 9 has a RECORD of as many PARTS as told, each a ROW. */
    private static ConstantKinds rowsIn(int parts) {
        ConstantKinds x = new ConstantKinds();
        x.row(0, 2);
        for (int p = 0; p < parts; p++) {
            x.part(0, 3, 0);
        }
        x.make(0, 9);
        return x;
    }

    /** SHAPE 0 has two NUMBERS, given as told, and a CHECK over them. */
    private static ConstantKinds twoNumbers(int kind, int a, int b) {
        ConstantKinds x = numbersIn(0, 2);
        x.check(0, kind, 0, 1);
        x.give(0, a, 0);
        x.give(1, b, 0);
        return x;
    }

    /** SHAPE 0 has a ROW, given as one of n ITEMS, and a NUMBER b, and a CHECK over them. */
    private static ConstantKinds rowAndNumber(int kind, int n, int b) {
        ConstantKinds x = new ConstantKinds();
        x.part(0, 3, 0);
        x.part(0, 0, 1000);
        x.check(0, kind, 0, 1);
        x.row(0, n);
        x.give(1, b, 0);
        return x;
    }

    /** SHAPE 0 has a RECORD of SHAPE 1, given as PLACE 0, and a NUMBER, and CHECK 5 over them. */
    private static ConstantKinds recordAndNumber() {
        ConstantKinds x = new ConstantKinds();
        x.part(0, 4, 1);
        x.part(0, 0, 1000);
        x.check(0, 5, 0, 1);
        return x;
    }

    /** PLACES 0 .. 5: a PLAIN, a TWICE, a LESS, all of KIND 5; a ROW; a RECORD of SHAPE 5; NOTHING. */
    private static ConstantKinds allThings() {
        ConstantKinds x = new ConstantKinds();
        for (int body = 0; body <= 2; body++) {
            x.constant(5, Due.name("a" + (char) ('a' + body)), body);
            x.hold(body, body);
        }
        x.row(3, 2);
        x.make(5, 4);
        return x;
    }
}
