/** Promises 13 to 19: for each sentence of the document on places that names an edge, a test of its own. */
public final class PlaceEdgesTest {
    private static final int BAD = -1, NONE = -3;
    private static final int LEAST = Integer.MIN_VALUE, MOST = Integer.MAX_VALUE;

    public static void main(String[] args) {
        places0To9();
        nothingAtFirst();
        nothingToEachCall();
        severalHoldTheSame();
        allPlacesHeld();
        rows0To12();
        rowsAreNew();
        rowOfNone();
        items0ToTheLast();
        itemsOfNoRow();
        itemsAreAnyInt();
        shareOfNothing();
        families1To5();
        aLessIsATwiceToo();
        likeOfNothing();
        likeRowsOfAsManyItems();
        likeRowsByEachItem();
        likeRecordsOfAsManyParts();
        likeRecordsByEachPart();
        likeWithinFourOthers();
        likeWithinFiveOthers();
        likeAtEachPartOfTheFifth();
        likeOfLongChains();
        Due.end();
    }

    /** "PLACES 0 .. 9" */
    private static void places0To9() {
        Edges.range("hold at PLACE", 0, 9, place -> allHold().hold(place, 1), place -> 4);
        Edges.range("row at PLACE", 0, 9, place -> allHold().row(place, 2), place -> 1);
        Edges.range("row of NONE at PLACE", 0, 9, place -> allHold().row(place, NONE), place -> 1);
        Edges.range("item at PLACE", 0, 9, place -> allHold().item(place, 0, 5), place -> 100 + place);
        Edges.range("share from PLACE", 0, 9, place -> allHold().share(0, place), place -> 4);
        Edges.range("share to PLACE", 0, 9, place -> allHold().share(place, 0), place -> 4);
        Edges.range("family at PLACE", 0, 9, place -> allHold().family(place), place -> 4);
        Edges.range("is at PLACE", 0, 9, place -> allHold().is(place, 4), place -> 1);
        Edges.range("like of PLACE", 0, 9, place -> allHold().like(place, 3), place -> place == 3 ? 1 : 0);
        Edges.range("like with PLACE", 0, 9, place -> allHold().like(3, place), place -> place == 3 ? 1 : 0);
    }

    /** "or NOTHING (at first)" */
    private static void nothingAtFirst() {
        ConstantKinds x = new ConstantKinds();
        for (int place = 0; place <= 9; place++) {
            Due.same("NOTHING at first", x.family(place), 0);
        }
        Due.same("no PLACE that holds a THING", x.count(4), 0);
    }

    private static void nothingToEachCall() {
        ConstantKinds x = new ConstantKinds();
        for (int family = 1; family <= 5; family++) {
            Due.same("NOTHING is of no FAMILY", x.is(9, family), 0);
        }
        Due.same("no ITEM of NOTHING", x.item(9, 0, 1), BAD);
        Due.same("no SHAPE of NOTHING", x.told(9, NONE), BAD);
        Due.same("no PART of NOTHING", x.told(9, 0), BAD);
        Due.same("nothing to take of NOTHING", x.take(9, 0, 1), BAD);
    }

    /** "several perhaps the same one" */
    private static void severalHoldTheSame() {
        ConstantKinds x = new ConstantKinds();
        x.row(0, 1);
        for (int place = 1; place <= 9; place++) {
            Due.same("share", x.share(place, place - 1), 4);
        }
        x.item(9, 0, 6);
        for (int place = 0; place <= 9; place++) {
            Due.same("one ROW in all PLACES", x.item(place, 0, 7 + place), 6 + place);
        }
        x.row(4, 1);
        Due.same("a new ROW at one of them", x.item(4, 0, 1), 0);
        Due.same("the others hold the old one", x.item(5, 0, 1), 16);
    }

    /** count(): "PLACES that hold a THING", from none to all ten. */
    private static void allPlacesHeld() {
        ConstantKinds x = new ConstantKinds();
        for (int place = 0; place <= 9; place++) {
            Due.same("PLACES that hold a THING", x.count(4), place);
            x.row(9 - place, 0);
        }
        Due.same("all PLACES", x.count(4), 10);
        x.row(0, 12);
        Due.same("all PLACES still", x.count(4), 10);
        x.row(0, NONE);
        x.row(9, NONE);
        Due.same("all but two", x.count(4), 8);
    }

    /** "a ROW (0 to 12 ints)", row(): "n ITEMS (0 .. 12)", "NOTHING (n = NONE)" */
    private static void rows0To12() {
        Edges.rangeOrNone("row of n", 0, 12, n -> new ConstantKinds().row(0, n), n -> 1);
        ConstantKinds x = new ConstantKinds();
        x.row(0, 12);
        x.item(0, 11, 8);
        for (int n : new int[] {13, 14, -1, -2, -4, LEAST, MOST}) {
            Due.same("row of " + n, x.row(0, n), BAD);
            Due.same("the old ROW is there", x.item(0, 11, 8), 8);
        }
    }

    /** row(): "a new ROW .., all 0" */
    private static void rowsAreNew() {
        ConstantKinds x = new ConstantKinds();
        for (int n = 12; n >= 0; n--) {
            x.row(0, n);
            for (int i = 0; i < n; i++) {
                Due.same("ITEM " + i + " of " + n, x.item(0, i, -1), 0);
            }
        }
        x.row(0, 12);
        x.row(1, 12);
        x.item(0, 11, 4);
        Due.same("two ROWS are not one", x.item(1, 11, 0), 0);
    }

    /** row(): "NOTHING (n = NONE): 1", whatever the PLACE held. */
    private static void rowOfNone() {
        ConstantKinds x = new ConstantKinds();
        x.constant(0, Due.name("a"), 0);
        Due.same("of NOTHING", x.row(0, NONE), 1);
        Due.same("NOTHING", x.family(0), 0);
        x.hold(0, 0);
        Due.same("of a CONSTANT", x.row(0, NONE), 1);
        Due.same("NOTHING", x.family(0), 0);
        x.make(0, 0);
        Due.same("of a RECORD", x.row(0, NONE), 1);
        Due.same("NOTHING", x.family(0), 0);
        x.row(0, 0);
        Due.same("of a ROW", x.row(0, NONE), 1);
        Due.same("NOTHING", x.family(0), 0);
    }

    /** item(): "no such ITEM" */
    private static void items0ToTheLast() {
        for (int n = 1; n <= 12; n++) {
            int length = n;
            Edges.range("ITEM of " + n, 0, n - 1, i -> rowOf(length).item(0, i, 5), i -> 100 + i);
        }
        Edges.none("ITEM of a ROW without any", i -> rowOf(0).item(0, i, 5));
        ConstantKinds x = rowOf(3);
        x.item(0, 3, 9);
        x.item(0, -1, 9);
        for (int i = 0; i < 3; i++) {
            Due.same("no ITEM was changed", x.item(0, i, 0), 100 + i);
        }
    }

    /** item(): "it is no ROW" */
    private static void itemsOfNoRow() {
        ConstantKinds x = new ConstantKinds();
        x.part(0, 0, 9);
        for (int body = 0; body <= 2; body++) {
            x.constant(0, Due.name("a" + (char) ('a' + body)), body);
            x.hold(body, body);
            Due.same("ITEM of a CONSTANT", x.item(body, 0, 1), BAD);
        }
        x.make(0, 3);
        Due.same("ITEM of a RECORD", x.item(3, 0, 1), BAD);
        Due.same("the RECORD is as it was", x.told(3, 0), 0);
        Due.same("ITEM of NOTHING", x.item(4, 0, 1), BAD);
        Due.same("still NOTHING", x.family(4), 0);
    }

    /** item(): "BAD may be an ITEM, too" */
    private static void itemsAreAnyInt() {
        ConstantKinds x = rowOf(1);
        int before = 100;
        for (int v : new int[] {BAD, -2, NONE, 0, LEAST, LEAST + 1, MOST - 1, MOST, BAD, 1}) {
            Due.same("ITEM becomes " + v, x.item(0, 0, v), before);
            before = v;
        }
        Due.same("the last one", x.item(0, 0, 0), 1);
    }

    /** share(): "its FAMILY", 0 of NOTHING. */
    private static void shareOfNothing() {
        ConstantKinds x = new ConstantKinds();
        x.row(0, 1);
        Due.same("share of NOTHING", x.share(0, 9), 0);
        Due.same("it holds NOTHING", x.family(0), 0);
        Due.same("NOTHING with NOTHING", x.share(8, 9), 0);
        Due.same("no PLACE holds a THING", x.count(4), 0);
    }

    /** is(): "a FAMILY 1 .. 5" */
    private static void families1To5() {
        ConstantKinds x = allFamilies();
        for (int place = 0; place <= 5; place++) {
            int held = place;
            Due.same("FAMILY", x.family(place), place);
            Edges.range("is of FAMILY " + place, 1, 5, family -> x.is(held, family),
                    family -> family == held || held == 3 && family == 2 ? 1 : 0);
        }
    }

    /** is(): "a LESS is a TWICE, too", but a TWICE is no LESS, and neither is a PLAIN. */
    private static void aLessIsATwiceToo() {
        ConstantKinds x = allFamilies();
        Due.same("a LESS is a LESS", x.is(3, 3), 1);
        Due.same("a LESS is a TWICE", x.is(3, 2), 1);
        Due.same("a LESS is no PLAIN", x.is(3, 1), 0);
        Due.same("a TWICE is no LESS", x.is(2, 3), 0);
        Due.same("a TWICE is no PLAIN", x.is(2, 1), 0);
        Due.same("a PLAIN is no TWICE", x.is(1, 2), 0);
        Due.same("the FAMILY of a LESS", x.family(3), 3);
    }

    /** like(): "NOTHING both: 1" */
    private static void likeOfNothing() {
        ConstantKinds x = allFamilies();
        Due.same("NOTHING both", x.like(0, 9), 1);
        Due.same("one PLACE with NOTHING", x.like(0, 0), 1);
        for (int place = 1; place <= 5; place++) {
            Due.same("NOTHING and a THING", x.like(0, place), 0);
            Due.same("a THING and NOTHING", x.like(place, 0), 0);
            Due.same("one PLACE", x.like(place, place), 1);
        }
    }

    /** "ROWS with as many .. ITEMS" */
    private static void likeRowsOfAsManyItems() {
        for (int n = 0; n <= 12; n++) {
            ConstantKinds x = new ConstantKinds();
            x.row(0, n);
            for (int m = 0; m <= 12; m++) {
                x.row(1, m);
                Due.same("ROWS of " + n + " and " + m, x.like(0, 1), n == m ? 1 : 0);
            }
        }
    }

    /** "and the same ITEMS" */
    private static void likeRowsByEachItem() {
        for (int n = 1; n <= 12; n++) {
            ConstantKinds x = new ConstantKinds();
            x.row(0, n);
            x.row(1, n);
            for (int i = 0; i < n; i++) {
                for (int v : new int[] {1, -1, LEAST, MOST, 65536}) {
                    x.item(0, i, v);
                    Due.same("another ITEM " + i + " of " + n, x.like(0, 1), 0);
                }
                x.item(1, i, 65536);
                Due.same("the same ITEMS", x.like(1, 0), 1);
            }
        }
    }

    /** "RECORDS of one SHAPE with as many PARTS" */
    private static void likeRecordsOfAsManyParts() {
        ConstantKinds x = new ConstantKinds();
        for (int parts = 0; parts <= 5; parts++) {
            Due.same("make", x.make(2, parts), 0);
            x.part(2, parts % 5, 0);
            x.give(parts % 5, 0, 9);
        }
        for (int a = 0; a <= 5; a++) {
            for (int b = 0; b <= 5; b++) {
                Due.same("RECORDS of " + a + " and " + b + " PARTS", x.like(a, b), a == b ? 1 : 0);
            }
        }
        x.make(2, 6);
        Due.same("two of five PARTS", x.like(5, 6), 1);
        x.make(3, 7);
        Due.same("two of no PARTS, of two SHAPES", x.like(0, 7), 0);
        x.make(3, 8);
        Due.same("two of no PARTS, of one SHAPE", x.like(8, 7), 1);
    }

    /** "NUMBERS alike, THINGS in them LIKE (or both NOTHING": the one PART that differs may be each of the five. */
    private static void likeRecordsByEachPart() {
        for (int sort = 0; sort <= 4; sort++) {
            for (int other = 0; other < 5; other++) {
                ConstantKinds x = allFamilies();
                for (int p = 0; p < 5; p++) {
                    x.part(1, sort, sort == 1 ? 2 : sort == 0 ? 9 : 0);
                    x.give(p, 3, 9);
                }
                x.make(1, 6);
                x.make(1, 7);
                Due.same("five PARTS alike", x.like(6, 7), 1);
                x.give(other, 4, sort == 1 ? 3 : sort == 2 ? 2 : sort == 3 ? 4 : 5);
                Due.same("make", x.make(1, 8), 0);
                Due.same("PART " + other + " of sort " + sort + " differs", x.like(6, 8), 0);
                Due.same("PART " + other + " of sort " + sort + " differs", x.like(8, 6), 0);
                x.make(1, 7);
                Due.same("PART " + other + " of sort " + sort + " does not", x.like(8, 7), 1);
            }
        }
    }

    private static void likeWithinFourOthers() {
        for (int others = 0; others <= 4; others++) {
            ConstantKinds x = new ConstantKinds();
            x.part(0, 4, 0);
            x.part(0, 0, 9);
            chain(x, 0, others, 5);
            chain(x, 1, others, 5);
            chain(x, 2, others, 6);
            Due.same("RECORDS within " + others + " others are alike", x.like(0, 1), 1);
            Due.same("RECORDS within " + others + " others are not", x.like(0, 2), 0);
        }
    }

    /** "those within five others are asked for being the same alone" */
    private static void likeWithinFiveOthers() {
        for (int others = 5; others <= 7; others++) {
            ConstantKinds x = new ConstantKinds();
            x.part(0, 4, 0);
            x.part(0, 0, 9);
            chain(x, 0, others, 5);
            chain(x, 1, others, 5);
            Due.same("RECORDS within " + others + " others are alike, not the same", x.like(0, 1), 0);
        }
        ConstantKinds x = new ConstantKinds();
        x.part(0, 4, 0);
        x.part(0, 0, 9);
        chain(x, 0, 0, 5);
        x.share(1, 0);
        for (int others = 1; others <= 5; others++) {
            wrap(x, 0);
            wrap(x, 1);
            Due.same("the same RECORD within " + others + " others", x.like(0, 1), 1);
        }
        wrap(x, 0);
        wrap(x, 1);
        Due.same("the same RECORD within six others, those within five are not", x.like(0, 1), 0);
    }

    /** What is within five others may stand in any PART: a RECORD there must be the same, a ROW only alike. */
    private static void likeAtEachPartOfTheFifth() {
        for (int p = 0; p < 5; p++) {
            for (int sort = 3; sort <= 4; sort++) {
                ConstantKinds x = new ConstantKinds();
                for (int i = 0; i < 5; i++) {
                    x.part(1, i == p ? sort : 0, i == p ? 5 : 0);
                }
                x.part(0, 4, 1);
                x.part(2, 4, 0);
                x.part(3, 4, 2);
                x.part(4, 4, 3);
                for (int place = 0; place <= 1; place++) {
                    withinFive(x, p, sort, place);
                }
                Due.same("sort " + sort + " in PART " + p + " within five", x.like(0, 1), sort == 3 ? 1 : 0);
            }
        }
    }

    /** A new ROW or RECORD in PART p of a RECORD of SHAPE 1, which is within four others. */
    private static void withinFive(ConstantKinds x, int p, int sort, int place) {
        Due.same("the inner THING", sort == 3 ? x.row(9, 1) : 1 + x.make(5, 9), 1);
        x.give(p, 0, 9);
        Due.same("the RECORD with it", x.make(1, place), 0);
        for (int shape : new int[] {0, 2, 3, 4}) {
            x.give(0, 0, place);
            Due.same("a RECORD around it", x.make(shape, place), 0);
        }
    }

    /** Records in records by the hundred end as soon as five others are around. */
    private static void likeOfLongChains() {
        ConstantKinds x = new ConstantKinds();
        x.part(0, 4, 0);
        x.part(0, 0, 9);
        chain(x, 0, 110, 5);
        chain(x, 1, 110, 5);
        Due.same("long chains", x.like(0, 1), 0);
        Due.same("a long chain with itself", x.like(1, 1), 1);
        x.share(2, 0);
        Due.same("a long chain in two PLACES", x.like(2, 0), 1);
    }

    /** A RECORD of SHAPE 0 with a number of its own and NOTHING, within as many others as told. */
    private static void chain(ConstantKinds x, int place, int others, int number) {
        x.give(0, 0, 9);
        x.give(1, number, 9);
        Due.same("the inner RECORD", x.make(0, place), 0);
        x.give(1, 0, 9);
        for (int link = 0; link < others; link++) {
            wrap(x, place);
        }
    }

    private static void wrap(ConstantKinds x, int place) {
        x.give(0, 0, place);
        Due.same("a RECORD around another", x.make(0, place), 0);
    }

    /** A ROW of one ITEM in each PLACE, 100 and the number of the PLACE. */
    private static ConstantKinds allHold() {
        ConstantKinds x = new ConstantKinds();
        x.constant(3, Due.name("a"), 0);
        x.constant(4, Due.name("a"), 0);
        for (int place = 0; place <= 9; place++) {
            x.row(place, 1);
            x.item(place, 0, 100 + place);
        }
        return x;
    }

    /** A ROW of n ITEMS in PLACE 0, each 100 and its own number. */
    private static ConstantKinds rowOf(int n) {
        ConstantKinds x = new ConstantKinds();
        x.row(0, n);
        for (int i = 0; i < n; i++) {
            x.item(0, i, 100 + i);
        }
        return x;
    }

    /** Each PLACE 0 .. 5 holds a THING of the FAMILY of its number; the CONSTANTS in 2 and 3 are of KIND 2. */
    private static ConstantKinds allFamilies() {
        ConstantKinds x = new ConstantKinds();
        for (int body = 0; body < 3; body++) {
            x.constant(2, Due.name("a" + (char) ('a' + body)), body);
            x.hold(1 + body, body);
        }
        x.row(4, 2);
        x.make(0, 5);
        return x;
    }
}
