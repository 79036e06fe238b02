/** Promises 20 to 28: shapes, making records, causes, what was started, counts. */
public final class RecordsTest {
    private static final int BAD = -1, FULL = -2, NONE = -3;
    private static final int CAST = 1, OWN = 2, NULL = 3, INDEX = 4, ZERO = 5;
    private static final int[] WRONG_PLACES = {-1, 10, NONE, Integer.MIN_VALUE, Integer.MAX_VALUE};
    private static final int[] WRONG_SHAPES = {-1, 6, NONE, Integer.MIN_VALUE, Integer.MAX_VALUE};

    public static void main(String[] args) {
        promise20Part();
        promise20Full();
        promise21Sorts();
        promise21Bad();
        promise21Full();
        promise22Give();
        promise23Numbers();
        promise23PartSorts();
        promise23Order();
        promise23ChecksOverNumbers();
        promise23ChecksOverRows();
        promise23ChecksOverConstants();
        promise23ChecksOverRecords();
        promise23Refused();
        promise23ShapesGrow();
        promise23SameThings();
        promise24Cause();
        promise25Told();
        promise26Take();
        promise27Started();
        promise28Count();
        Due.end();
    }

    private static void promise20Part() {
        int[][] wrong = {{0, -1}, {0, 1001}, {0, Integer.MIN_VALUE}, {0, Integer.MAX_VALUE}, {1, -1}, {1, 6},
            {4, -1}, {4, 6}, {-1, 0}, {5, 0}, {Integer.MIN_VALUE, 0}, {Integer.MAX_VALUE, 0}};
        int[][] right = {{0, 0}, {0, 1000}, {1, 0}, {1, 5}, {2, -1}, {2, Integer.MAX_VALUE}, {3, Integer.MIN_VALUE},
            {3, 2000}, {4, 0}, {4, 5}};
        ConstantKinds x = new ConstantKinds();
        for (int[] part : wrong) {
            Due.same("part of " + part[0] + ", " + part[1], x.part(0, part[0], part[1]), BAD);
        }
        for (int shape : WRONG_SHAPES) {
            Due.same("part of shape " + shape, x.part(shape, 0, 0), BAD);
        }
        for (int i = 0; i < right.length; i++) {
            int shape = i / 5 * 5;
            Due.same("part " + i, x.part(shape, right[i][0], right[i][1]), i % 5);
        }
    }

    private static void promise20Full() {
        ConstantKinds x = new ConstantKinds();
        for (int p = 0; p < 5; p++) {
            Due.same("part", x.part(3, 0, 1), p);
        }
        Due.same("a sixth part", x.part(3, 0, 1), FULL);
        Due.same("bad ahead of full", x.part(3, 5, 1), BAD);
        Due.same("bad ahead of full", x.part(3, 0, 1001), BAD);
        Due.same("another shape", x.part(4, 0, 1), 0);
        x.make(3, 0);
        Due.same("five parts", x.told(0, 4), 0);
        Due.same("five parts", x.told(0, 5), BAD);
    }

    private static void promise21Sorts() {
        for (int kind = -1; kind <= 6; kind++) {
            for (int a = 0; a < 5; a++) {
                for (int b = 0; b < 5; b++) {
                    ConstantKinds x = allSorts();
                    boolean fits = switch (kind) {
                        case 0, 1 -> a == 0;
                        case 2, 3 -> a == 3;
                        case 4 -> a == 1 || a == 2;
                        case 5 -> a == 4;
                        default -> false;
                    };
                    Due.same("check(0, " + kind + ", " + a + ", " + b + ")", x.check(0, kind, a, b),
                            fits && b == 0 ? 0 : BAD);
                }
            }
        }
    }

    private static void promise21Bad() {
        ConstantKinds x = allSorts();
        x.part(1, 0, 5);
        for (int shape : WRONG_SHAPES) {
            Due.same("check of shape " + shape, x.check(shape, 0, 0, 0), BAD);
        }
        for (int kind : new int[] {-1, 6, NONE, Integer.MIN_VALUE, Integer.MAX_VALUE}) {
            Due.same("check of kind " + kind, x.check(0, kind, 0, 0), BAD);
        }
        for (int p : new int[] {-1, 1, 5, NONE, Integer.MIN_VALUE, Integer.MAX_VALUE}) {
            Due.same("check of a " + p, x.check(1, 0, p, 0), BAD);
            Due.same("check of b " + p, x.check(1, 0, 0, p), BAD);
        }
        Due.same("no check came", x.check(1, 0, 0, 0), 0);
    }

    private static void promise21Full() {
        ConstantKinds x = allSorts();
        for (int c = 0; c < 4; c++) {
            Due.same("check", x.check(0, 0, 0, 0), c);
        }
        Due.same("a fifth check", x.check(0, 0, 0, 0), FULL);
        Due.same("bad ahead of full", x.check(0, 6, 0, 0), BAD);
        Due.same("bad ahead of full", x.check(0, 0, 0, 5), BAD);
        Due.same("bad ahead of full", x.check(0, 2, 0, 0), BAD);
    }

    private static void promise22Give() {
        ConstantKinds x = new ConstantKinds();
        for (int p = 0; p < 5; p++) {
            x.part(0, 0, 1000);
            x.part(1, 3, 0);
        }
        x.row(0, 1);
        x.make(0, 1);
        x.make(1, 2);
        for (int p = 0; p < 5; p++) {
            Due.same("given 0 at first", x.told(1, p), 0);
            Due.same("given place 0 at first", x.told(2, p), -6);
            Due.same("give", x.give(p, 100 + p, 9), 1);
        }
        x.make(0, 1);
        x.make(1, 2);
        for (int p = 0; p < 5; p++) {
            Due.same("the number given", x.told(1, p), 100 + p);
            Due.same("the place given", x.told(2, p), -10);
        }
        for (int p : new int[] {-1, 5, NONE, Integer.MIN_VALUE, Integer.MAX_VALUE}) {
            Due.same("give for " + p, x.give(p, 1, 1), BAD);
        }
        for (int place : WRONG_PLACES) {
            Due.same("give of place " + place, x.give(0, 1, place), BAD);
        }
        x.make(0, 1);
        Due.same("the refused gave nothing", x.told(1, 0), 100);
        Due.same("any number may be given", x.give(0, Integer.MIN_VALUE, 0), 1);
        Due.same("but not taken", x.make(0, 1), OWN);
    }

    private static void promise23Numbers() {
        ConstantKinds x = new ConstantKinds();
        x.part(0, 0, 0);
        x.part(1, 0, 1000);
        int[] numbers = {0, 1, -1, 1000, 1001, Integer.MIN_VALUE, Integer.MAX_VALUE};
        for (int number : numbers) {
            x.give(0, number, 0);
            Due.same("of 0 .. 0 " + number, x.make(0, 1), number == 0 ? 0 : OWN);
            boolean right = number >= 0 && number <= 1000;
            Due.same("of 0 .. 1000 " + number, x.make(1, 2), right ? 0 : OWN);
            Due.same("at part 0", x.cause(1), right ? NONE : 0);
        }
        Due.same("a shape without parts", x.make(5, 3), 0);
        Due.same("its shape", x.told(3, NONE), 5);
    }

    /** A line for each place of allThings(), a column for each part. */
    private static void promise23PartSorts() {
        int[][] parts = {{1, 0}, {1, 2}, {2, 0}, {2, 5}, {3, 0}, {4, 0}, {4, 5}};
        int[][] want = {
            {0, OWN, CAST, CAST, CAST, CAST, CAST},
            {OWN, OWN, 0, 0, CAST, CAST, CAST},
            {OWN, 0, 0, 0, CAST, CAST, CAST},
            {CAST, CAST, CAST, CAST, 0, CAST, CAST},
            {CAST, CAST, CAST, CAST, CAST, 0, OWN},
            {CAST, CAST, CAST, CAST, CAST, OWN, OWN},
            {0, 0, 0, 0, 0, 0, 0},
        };
        for (int held = 0; held < want.length; held++) {
            for (int i = 0; i < parts.length; i++) {
                ConstantKinds x = allThings();
                x.part(5, parts[i][0], parts[i][1]);
                x.give(0, 0, held);
                Due.same("thing " + held + " as part " + i, x.make(5, 9), want[held][i]);
                Due.same("at part 0", x.cause(1), want[held][i] == 0 ? NONE : 0);
                Due.same("held", x.family(9), want[held][i] == 0 ? 5 : 0);
            }
        }
    }

    private static void promise23Order() {
        ConstantKinds x = allThings();
        x.part(5, 0, 5);
        x.part(5, 2, 0);
        x.part(5, 3, 0);
        x.check(5, 1, 0, 0);
        x.give(0, 9, 0);
        x.give(1, 0, 0);
        x.give(2, 0, 0);
        Due.same("the first part that is wrong", x.make(5, 9), OWN);
        Due.same("at part 0", x.cause(1), 0);
        x.give(0, 0, 0);
        Due.same("the next part", x.make(5, 9), CAST);
        Due.same("at part 1", x.cause(1), 1);
        x.give(1, 0, 1);
        Due.same("the next part", x.make(5, 9), CAST);
        Due.same("at part 2", x.cause(1), 2);
        x.give(2, 0, 3);
        Due.same("then the checks", x.make(5, 9), ZERO);
        Due.same("at check 0", x.cause(1), 10);
        x.check(5, 3, 2, 0);
        x.give(0, 5, 0);
        Due.same("the next check", x.make(5, 9), OWN);
        Due.same("at check 1", x.cause(1), 11);
        x.give(0, 2, 0);
        Due.same("all hold", x.make(5, 9), 0);
        Due.same("at none", x.cause(1), NONE);
    }

    private static void promise23ChecksOverNumbers() {
        ConstantKinds x = new ConstantKinds();
        for (int shape = 0; shape < 2; shape++) {
            x.part(shape, 0, 1000);
            x.part(shape, 0, 1000);
            x.check(shape, shape, 0, 1);
        }
        int[] numbers = {0, 1, 2, 3, 12, 999, 1000};
        for (int a : numbers) {
            for (int b : numbers) {
                x.give(0, a, 0);
                x.give(1, b, 0);
                Due.same(a + " is " + b + " at most", x.make(0, 0), a <= b ? 0 : OWN);
                Due.same(a + " % " + b, x.make(1, 0), b == 0 ? ZERO : a % b == 0 ? 0 : OWN);
            }
        }
    }

    private static void promise23ChecksOverRows() {
        ConstantKinds x = new ConstantKinds();
        for (int shape = 0; shape < 2; shape++) {
            x.part(shape, 3, 0);
            x.part(shape, 0, 1000);
            x.check(shape, 2 + shape, 0, 1);
        }
        x.row(0, 3);
        x.row(1, 0);
        int[] items = {-1, 0, 1};
        for (int i = 0; i < 3; i++) {
            x.item(0, i, items[i]);
        }
        int[] wantItem = {OWN, OWN, 0, INDEX, INDEX};
        for (int b = 0; b < 5; b++) {
            x.give(1, b, 0);
            x.give(0, 0, 0);
            Due.same("item " + b + " of three", x.make(0, 8), wantItem[b]);
            Due.same(b + " items of three", x.make(1, 8), b <= 3 ? 0 : OWN);
            x.give(0, 0, 1);
            Due.same("item " + b + " of none", x.make(0, 8), INDEX);
            Due.same(b + " items of none", x.make(1, 8), b == 0 ? 0 : OWN);
            x.give(0, 0, 9);
            Due.same("item of nothing", x.make(0, 8), NULL);
            Due.same("items of nothing", x.make(1, 8), NULL);
        }
    }

    private static void promise23ChecksOverConstants() {
        ConstantKinds x = new ConstantKinds();
        for (int i = 0; i < 4; i++) {
            x.constant(0, Due.name("x" + (char) ('a' + i)), 0);
            x.constant(1, Due.name("x" + (char) ('a' + i)), i % 2 + 1);
        }
        x.arrange(6, 1);
        x.part(0, 1, 0);
        x.part(1, 2, 0);
        for (int shape = 0; shape < 2; shape++) {
            x.part(shape, 0, 1000);
            x.check(shape, 4, 0, 1);
            for (int order = 0; order < 4; order++) {
                x.hold(0, 2 * order + shape);
                for (int b = 0; b <= 5; b++) {
                    x.give(0, 0, 0);
                    x.give(1, b, 0);
                    Due.same("order " + order + " below " + b, x.make(shape, 8), order < b ? 0 : OWN);
                }
            }
            x.give(0, 0, 9);
            Due.same("order of nothing", x.make(shape, 8), NULL);
        }
    }

    private static void promise23ChecksOverRecords() {
        ConstantKinds x = new ConstantKinds();
        x.part(1, 0, 1000);
        x.part(2, 3, 0);
        for (int k = 0; k < 3; k++) {
            x.part(3 + k, 4, k);
            x.part(3 + k, 0, 1000);
            x.check(3 + k, 5, 0, 1);
        }
        x.give(0, 7, 9);
        for (int k = 0; k < 3; k++) {
            Due.same("inner record", x.make(k, k), 0);
        }
        x.give(1, 7, 9);
        int[] want = {INDEX, 0, CAST};
        for (int k = 0; k < 3; k++) {
            x.give(0, 0, k);
            Due.same("part 0 of a record of shape " + k, x.make(3 + k, 8), want[k]);
            Due.same("at check 0", x.cause(1), want[k] == 0 ? NONE : 10);
            x.give(0, 0, 9);
            Due.same("part 0 of nothing", x.make(3 + k, 8), NULL);
        }
        x.give(0, 0, 1);
        x.give(1, 8, 9);
        Due.same("part 0 is another number", x.make(4, 8), OWN);
        x.give(1, 6, 9);
        Due.same("part 0 is another number", x.make(4, 8), OWN);
        x.part(0, 0, 9);
        x.give(0, 0, 0);
        Due.same("the record was made without a part 0", x.make(3, 8), INDEX);
    }

    private static void promise23Refused() {
        ConstantKinds x = allThings();
        int acts = x.count(1);
        x.part(5, 0, 5);
        x.give(0, 6, 0);
        Due.same("a failure", x.make(5, 3), OWN);
        Due.same("the place holds what it held", x.family(3), 4);
        Due.same("a failure is an act", x.count(1), acts + 1);
        Due.same("no record more", x.count(3), 2);
        for (int shape : WRONG_SHAPES) {
            Due.same("make of shape " + shape, x.make(shape, 0), BAD);
        }
        for (int place : WRONG_PLACES) {
            Due.same("make at " + place, x.make(5, place), BAD);
        }
        Due.same("refused calls are no acts", x.count(1), acts + 1);
        Due.same("refused calls leave the cause", x.cause(0), OWN);
        Due.same("refused calls leave the cause", x.cause(1), 0);
    }

    private static void promise23ShapesGrow() {
        ConstantKinds x = new ConstantKinds();
        x.part(0, 0, 9);
        x.give(0, 4, 0);
        x.make(0, 0);
        x.part(0, 0, 9);
        x.check(0, 0, 0, 1);
        Due.same("the check is asked from now on", x.make(0, 1), OWN);
        x.give(1, 5, 0);
        Due.same("with two parts", x.make(0, 1), 0);
        Due.same("the old record has one part", x.told(0, 0), 4);
        Due.same("the old record has one part", x.told(0, 1), BAD);
        Due.same("the new record has two", x.told(1, 1), 5);
        Due.same("they are not alike", x.like(0, 1), 0);
        x.give(0, 0, 0);
        x.make(0, 2);
        Due.same("a record keeps its numbers", x.told(1, 0), 4);
    }

    private static void promise23SameThings() {
        ConstantKinds x = new ConstantKinds();
        x.part(0, 3, 0);
        x.part(0, 0, 9);
        x.check(0, 2, 0, 1);
        x.row(0, 1);
        x.item(0, 0, 1);
        x.make(0, 1);
        x.item(0, 0, -4);
        x.take(1, 0, 2);
        Due.same("the row in it is the same", x.item(2, 0, 1), -4);
        x.row(0, NONE);
        Due.same("it keeps its part", x.told(1, 0), -6);
        x.part(1, 4, 0);
        x.give(0, 0, 1);
        Due.same("a record over the place it came from", x.make(1, 1), 0);
        Due.same("the new one", x.told(1, NONE), 1);
        Due.same("the old one in it", x.take(1, 0, 3), 5);
        Due.same("the old one", x.told(3, NONE), 0);
    }

    private static void promise24Cause() {
        ConstantKinds x = new ConstantKinds();
        Due.same("no make yet", x.cause(0), 0);
        Due.same("no make yet", x.cause(1), NONE);
        for (int p = 0; p < 5; p++) {
            x.part(0, 0, 9);
        }
        for (int c = 0; c < 4; c++) {
            x.check(0, 1, 4, c);
        }
        for (int p = 4; p >= 0; p--) {
            x.give(p, 10, 0);
            Due.same("make", x.make(0, 0), OWN);
            Due.same("why", x.cause(0), OWN);
            Due.same("at part", x.cause(1), p);
        }
        for (int p = 0; p < 5; p++) {
            x.give(p, 0, 0);
        }
        for (int c = 0; c < 4; c++) {
            Due.same("make", x.make(0, 0), ZERO);
            Due.same("why", x.cause(0), ZERO);
            Due.same("at check", x.cause(1), 10 + c);
            x.give(c, 1, 0);
        }
        Due.same("make", x.make(0, 0), 0);
        Due.same("why", x.cause(0), 0);
        Due.same("at none", x.cause(1), NONE);
        for (int what : new int[] {-1, 2, NONE, Integer.MIN_VALUE, Integer.MAX_VALUE}) {
            Due.same("cause " + what, x.cause(what), BAD);
        }
    }

    private static void promise25Told() {
        ConstantKinds x = allThings();
        int[] tells = {-9, -8, -7, -6, -5, -5, -10};
        for (int held = 0; held < tells.length; held++) {
            int[] sort = held < 3 ? new int[] {1, held} : held == 3 ? new int[] {3, 0} : new int[] {4, held % 2};
            ConstantKinds y = allThings();
            y.part(5, sort[0], sort[1]);
            y.part(5, 0, 1000);
            y.give(0, 0, held);
            y.give(1, 1000, held);
            Due.same("make with thing " + held, y.make(5, 9), 0);
            Due.same("told of thing " + held, y.told(9, 0), tells[held]);
            Due.same("told of a number", y.told(9, 1), 1000);
            Due.same("told of its shape", y.told(9, NONE), 5);
            for (int p : new int[] {-1, -2, -4, 2, 5, Integer.MIN_VALUE, Integer.MAX_VALUE}) {
                Due.same("told of part " + p, y.told(9, p), BAD);
            }
        }
        for (int place : new int[] {0, 1, 2, 3, 6, -1, 10, NONE, Integer.MIN_VALUE, Integer.MAX_VALUE}) {
            Due.same("told of no record", x.told(place, NONE), BAD);
            Due.same("told of no record", x.told(place, 0), BAD);
        }
        Due.same("a record without parts", x.told(4, 0), BAD);
        Due.same("its shape", x.told(5, NONE), 1);
    }

    private static void promise26Take() {
        ConstantKinds x = allThings();
        x.part(5, 0, 9);
        x.part(5, 1, 0);
        x.part(5, 2, 0);
        x.part(5, 3, 0);
        x.part(5, 4, 0);
        x.give(1, 0, 0);
        x.give(2, 0, 2);
        x.give(3, 0, 6);
        x.give(4, 0, 4);
        Due.same("make", x.make(5, 9), 0);
        int acts = x.count(1);
        Due.same("a number", x.take(9, 0, 8), BAD);
        Due.same("the place holds nothing", x.family(8), 0);
        Due.same("a constant", x.take(9, 1, 8), 1);
        Due.same("held", x.like(8, 0), 1);
        Due.same("a less", x.take(9, 2, 8), 3);
        Due.same("held", x.like(8, 2), 1);
        Due.same("a record", x.take(9, 4, 8), 5);
        Due.same("held", x.told(8, NONE), 0);
        for (int p : new int[] {-1, 5, NONE, Integer.MIN_VALUE, Integer.MAX_VALUE}) {
            Due.same("take part " + p, x.take(9, p, 8), BAD);
        }
        for (int place : WRONG_PLACES) {
            Due.same("take from " + place, x.take(place, 1, 8), BAD);
            Due.same("take to " + place, x.take(9, 1, place), BAD);
        }
        for (int place : new int[] {0, 3, 6}) {
            Due.same("take from no record", x.take(place, 0, 8), BAD);
        }
        Due.same("held still", x.told(8, NONE), 0);
        Due.same("no such part", x.take(8, 0, 7), BAD);
        Due.same("nothing", x.take(9, 3, 8), 0);
        Due.same("held nothing", x.family(8), 0);
        Due.same("taking is no act", x.count(1), acts);
        Due.same("to its own place", x.take(9, 4, 9), 5);
        Due.same("held there", x.told(9, NONE), 0);
    }

    private static void promise27Started() {
        ConstantKinds x = new ConstantKinds();
        for (int kind = 0; kind < 6; kind++) {
            x.constant(kind, Due.name("a"), 1);
        }
        x.weigh(3, 5);
        x.arrange(3, 1);
        x.shuffle(3, 1, 1);
        x.table(3, 0);
        x.order(3, 0);
        x.named(3, Due.name("a"));
        x.about(3, 0);
        x.kind(3, 0, 0);
        x.draw(2, 0, 1, 1);
        for (int kind = 0; kind < 6; kind++) {
            Due.same("started by no act", x.started(kind), NONE);
        }
        x.make(0, 9);
        x.worth(5, 1);
        x.part(0, 0, 0);
        x.give(0, 1, 0);
        x.make(0, 9);
        x.hold(0, 0);
        x.draw(3, 0, 1, 1);
        x.hold(1, 5);
        x.worth(0, 1);
        int[] want = {3, NONE, NONE, 4, NONE, 1};
        for (int kind = 0; kind < 6; kind++) {
            Due.same("started", x.started(kind), want[kind]);
        }
        for (int kind : new int[] {-1, 6, NONE, Integer.MIN_VALUE, Integer.MAX_VALUE}) {
            Due.same("started of kind " + kind, x.started(kind), BAD);
        }
    }

    private static void promise28Count() {
        ConstantKinds x = new ConstantKinds();
        x.constant(0, Due.name("a"), 0);
        x.constant(4, Due.name("a"), 0);
        x.constant(5, Due.name("a"), 0);
        x.weigh(1, 3);
        x.worth(0, 1);
        x.draw(4, 0, 1, 1);
        x.draw(4, 0, 1, 2);
        x.draw(5, 0, 1, 2);
        x.hold(0, 0);
        x.hold(1, 0);
        x.hold(1, 1);
        x.row(2, 0);
        x.share(3, 2);
        x.share(4, 9);
        x.row(5, 1);
        x.row(5, NONE);
        x.part(1, 0, 5);
        x.give(0, 6, 0);
        x.make(1, 6);
        x.make(0, 7);
        x.make(0, 7);
        x.make(0, 8);
        int[] want = {3, 10, 2, 3, 6, 2};
        for (int what = 0; what <= 5; what++) {
            Due.same("count(" + what + ")", x.count(what), want[what]);
        }
        for (int what : new int[] {-1, 6, NONE, Integer.MIN_VALUE, Integer.MAX_VALUE}) {
            Due.same("count(" + what + ")", x.count(what), BAD);
        }
    }

    /** Shape 0 has a part of each sort, numbered like the sort. */
    private static ConstantKinds allSorts() {
        ConstantKinds x = new ConstantKinds();
        for (int sort = 0; sort < 5; sort++) {
            Due.same("part", x.part(0, sort, 0), sort);
        }
        return x;
    }

    /** Places 0 .. 6: a plain, a twice, a less, of kinds 0, 1, 2; a row; records of shapes 0, 1; nothing. */
    private static ConstantKinds allThings() {
        ConstantKinds x = new ConstantKinds();
        for (int body = 0; body < 3; body++) {
            x.constant(body, Due.name("a"), body);
            x.hold(body, body);
        }
        x.row(3, 2);
        x.make(0, 4);
        x.make(1, 5);
        return x;
    }
}
