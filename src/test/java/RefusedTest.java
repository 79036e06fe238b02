import java.util.ArrayList;
import java.util.List;
import java.util.function.Supplier;
import java.util.function.ToIntFunction;

/** "What is refused changes nothing; of several the first here": each call, each way in which it is refused. */
public final class RefusedTest {
    private static final int BAD = -1, FULL = -2, NONE = -3;
    private static final int LEAST = Integer.MIN_VALUE, MOST = Integer.MAX_VALUE;
    private static final long A = Due.name("a"), NEW = Due.name("new");
    private static final int[] NO_KINDS = {-1, 6, NONE, LEAST, MOST};
    private static final int[] NO_BUILDS = {-1, 3, NONE, LEAST, MOST};
    private static final int[] NO_CONSTANTS = {-1, 5, 60, NONE, LEAST, MOST};
    private static final int[] NO_PLACES = {-1, 10, NONE, LEAST, MOST};
    private static final int[] NO_SHAPES = {-1, 6, NONE, LEAST, MOST};
    private static final int[] NO_PARTS = {-1, 5, -2, LEAST, MOST};

    private record Refused(String call, int answer, ToIntFunction<ConstantKinds> asked) {
    }

    private static final List<Refused> CALLS = new ArrayList<>();

    public static void main(String[] args) {
        stateTellsWhatIsThere();
        refusedConstants();
        refusedBuilds();
        refusedTellings();
        refusedTables();
        refusedPlaces();
        refusedShapes();
        refusedRecords();
        eachAlone(RefusedTest::inUse);
        allInARow(RefusedTest::inUse);
        CALLS.clear();
        refusedAsFull();
        eachAlone(RefusedTest::full);
        allInARow(RefusedTest::full);
        Due.end();
    }

    /** Without this a State that tells nothing would let every change pass. */
    private static void stateTellsWhatIsThere() {
        Due.yes("two alike tell the same", State.of(inUse()).equals(State.of(inUse())));
        List<ToIntFunction<ConstantKinds>> changes = List.of(
                x -> x.constant(5, NEW, 0), x -> x.arrange(1, 1), x -> x.weigh(2, 9), x -> x.worth(0, 1),
                x -> x.draw(1, 0, 1, 1), x -> x.hold(1, 1), x -> x.row(7, 0), x -> x.row(2, NONE),
                x -> x.item(2, 1, 3), x -> x.share(7, 2), x -> x.part(0, 0, 5), x -> x.check(0, 0, 0, 0),
                x -> x.give(0, 9, 1), x -> x.give(1, 12, 0), x -> x.give(4, 16, 0), x -> x.make(3, 3),
                x -> x.make(1, 9), x -> x.take(3, 2, 7), x -> x.shuffle(0, 1, 2));
        for (int i = 0; i < changes.size(); i++) {
            ConstantKinds x = inUse();
            Due.yes("change " + i + " is not refused", changes.get(i).applyAsInt(x) >= 0);
            Due.yes("change " + i + " is told", !State.of(x).equals(State.of(inUse())));
        }
    }

    private static void eachAlone(Supplier<ConstantKinds> made) {
        List<Integer> before = State.of(made.get());
        for (Refused refused : CALLS) {
            ConstantKinds x = made.get();
            Due.same(refused.call, refused.asked.applyAsInt(x), refused.answer);
            Due.yes(refused.call + ": nothing is changed", State.of(x).equals(before));
        }
    }

    /** An object is good for 512 calls, so there is a new one for each hundred. */
    private static void allInARow(Supplier<ConstantKinds> made) {
        List<Integer> before = State.of(made.get());
        for (int from = 0; from < CALLS.size(); from += 100) {
            ConstantKinds x = made.get();
            for (Refused refused : CALLS.subList(from, Math.min(from + 100, CALLS.size()))) {
                Due.same(refused.call + " in a row", refused.asked.applyAsInt(x), refused.answer);
            }
            Due.yes("nothing is changed by all in a row", State.of(x).equals(before));
        }
    }

    private static void bad(String call, ToIntFunction<ConstantKinds> asked) {
        CALLS.add(new Refused(call, BAD, asked));
    }

    private static void refusedConstants() {
        for (int kind : NO_KINDS) {
            bad("constant of KIND " + kind, x -> x.constant(kind, NEW, 0));
        }
        for (long name : new long[] {0, -1, 'a' - 1, 'z' + 1, A << 8, A | A << 16, LEAST, Long.MIN_VALUE}) {
            bad("constant of NAME " + name, x -> x.constant(0, name, 0));
        }
        bad("constant of a NAME that is there", x -> x.constant(0, A, 2));
        bad("constant of a NAME that is there", x -> x.constant(5, Due.name("z"), 0));
        for (int body : new int[] {-1, 3, NONE, LEAST, MOST}) {
            bad("constant of BODY " + body, x -> x.constant(0, NEW, body));
        }
    }

    private static void refusedBuilds() {
        for (int constant : NO_CONSTANTS) {
            bad("arrange of CONSTANT " + constant, x -> x.arrange(constant, 1));
        }
        for (int build : NO_BUILDS) {
            bad("arrange in BUILD " + build, x -> x.arrange(1, build));
            bad("shuffle of BUILD " + build, x -> x.shuffle(0, build, 2));
        }
        bad("arrange in BUILD 0", x -> x.arrange(1, 0));
        bad("arrange, it is in it", x -> x.arrange(0, 1));
        bad("arrange, it is in it", x -> x.arrange(2, 1));
        bad("shuffle of BUILD 0", x -> x.shuffle(0, 0, 2));
        for (int kind : NO_KINDS) {
            bad("shuffle of KIND " + kind, x -> x.shuffle(kind, 1, 2));
        }
    }

    private static void refusedTellings() {
        for (int kind : NO_KINDS) {
            bad("kind of KIND " + kind, x -> x.kind(kind, 0, NONE));
            bad("named of KIND " + kind, x -> x.named(kind, A));
            bad("started of KIND " + kind, x -> x.started(kind));
        }
        for (int build : NO_BUILDS) {
            bad("kind of BUILD " + build, x -> x.kind(0, build, NONE));
            bad("order in BUILD " + build, x -> x.order(0, build));
        }
        for (int i : new int[] {-1, -2, -4, 3, LEAST, MOST}) {
            bad("kind of ORDER " + i, x -> x.kind(0, 0, i));
        }
        for (int constant : NO_CONSTANTS) {
            bad("order of CONSTANT " + constant, x -> x.order(constant, 0));
            bad("about CONSTANT " + constant, x -> x.about(constant, 0));
        }
        for (int what : new int[] {-1, 4, NONE, LEAST, MOST}) {
            bad("about " + what, x -> x.about(0, what));
        }
        for (int what : new int[] {-1, 2, NONE, LEAST, MOST}) {
            bad("cause " + what, x -> x.cause(what));
        }
        for (int what : new int[] {-1, 6, NONE, LEAST, MOST}) {
            bad("count " + what, x -> x.count(what));
        }
        CALLS.add(new Refused("named of no such NAME", NONE, x -> x.named(0, NEW)));
        CALLS.add(new Refused("order in a BUILD that it is not in", NONE, x -> x.order(1, 1)));
    }

    private static void refusedTables() {
        for (int constant : NO_CONSTANTS) {
            bad("weigh of CONSTANT " + constant, x -> x.weigh(constant, 1));
            bad("worth of CONSTANT " + constant, x -> x.worth(constant, 1));
        }
        for (int w : new int[] {-1, 1001, NONE, LEAST, MOST}) {
            bad("weigh of WEIGHT " + w, x -> x.weigh(0, w));
        }
        for (int kind : NO_KINDS) {
            bad("table of KIND " + kind, x -> x.table(kind, 0));
            bad("draw of KIND " + kind, x -> x.draw(kind, 0, 1, 1));
        }
        for (int build : NO_BUILDS) {
            bad("table of BUILD " + build, x -> x.table(1, build));
            bad("draw of BUILD " + build, x -> x.draw(1, build, 1, 1));
        }
        for (int n : new int[] {-1, -2, NONE, LEAST}) {
            bad("draw of stream " + n, x -> x.draw(1, 0, 1, n));
            bad("draw of stream " + n + " ahead of NONE", x -> x.draw(0, 0, 1, n));
        }
        CALLS.add(new Refused("draw that lacks a WEIGHT", NONE, x -> x.draw(0, 0, 1, 1)));
        CALLS.add(new Refused("draw of an empty BUILD", NONE, x -> x.draw(1, 2, 1, 1)));
        CALLS.add(new Refused("draw of an empty KIND", NONE, x -> x.draw(3, 0, 1, 1)));
    }

    private static void refusedPlaces() {
        for (int place : NO_PLACES) {
            bad("hold at " + place, x -> x.hold(place, 4));
            bad("row at " + place, x -> x.row(place, 2));
            bad("row of NONE at " + place, x -> x.row(place, NONE));
            bad("item at " + place, x -> x.item(place, 0, 5));
            bad("share to " + place, x -> x.share(place, 2));
            bad("share from " + place, x -> x.share(2, place));
            bad("family at " + place, x -> x.family(place));
            bad("is at " + place, x -> x.is(place, 1));
            bad("like of " + place, x -> x.like(place, 2));
            bad("like with " + place, x -> x.like(2, place));
        }
        for (int constant : NO_CONSTANTS) {
            bad("hold of CONSTANT " + constant, x -> x.hold(2, constant));
        }
        for (int n : new int[] {-1, -2, -4, 13, LEAST, MOST}) {
            bad("row of " + n, x -> x.row(2, n));
        }
        for (int i : new int[] {-1, 3, 12, NONE, LEAST, MOST}) {
            bad("item " + i, x -> x.item(2, i, 5));
        }
        bad("item of a CONSTANT", x -> x.item(1, 0, 5));
        bad("item of a RECORD", x -> x.item(3, 0, 5));
        bad("item of NOTHING", x -> x.item(9, 0, 5));
        for (int family : new int[] {-1, 0, 6, NONE, LEAST, MOST}) {
            bad("is of FAMILY " + family, x -> x.is(2, family));
        }
    }

    private static void refusedShapes() {
        for (int shape : NO_SHAPES) {
            bad("part of SHAPE " + shape, x -> x.part(shape, 0, 1));
            bad("check of SHAPE " + shape, x -> x.check(shape, 0, 0, 0));
        }
        for (int sort : new int[] {-1, 5, NONE, LEAST, MOST}) {
            bad("part of sort " + sort, x -> x.part(0, sort, 1));
        }
        int[][] wrong = {{0, -1}, {0, 1001}, {0, LEAST}, {0, MOST}, {1, -1}, {1, 6}, {1, LEAST}, {1, MOST}, {4, -1},
            {4, 6}, {4, LEAST}, {4, MOST}};
        for (int[] part : wrong) {
            bad("part of sort " + part[0] + " with " + part[1], x -> x.part(0, part[0], part[1]));
            bad("part ahead of FULL", x -> x.part(1, part[0], part[1]));
        }
        CALLS.add(new Refused("a sixth part", FULL, x -> x.part(1, 0, 1)));
        CALLS.add(new Refused("a fifth check", FULL, x -> x.check(1, 1, 0, 1)));
        for (int kind : new int[] {-1, 6, NONE, LEAST, MOST}) {
            bad("check of kind " + kind, x -> x.check(0, kind, 0, 0));
            bad("check of kind " + kind + " ahead of FULL", x -> x.check(1, kind, 0, 0));
        }
        for (int p : new int[] {-1, 3, 5, NONE, LEAST, MOST}) {
            bad("check of a " + p, x -> x.check(0, 0, p, 0));
            bad("check of b " + p, x -> x.check(0, 0, 0, p));
        }
        for (int p : NO_PARTS) {
            bad("check of a " + p + " ahead of FULL", x -> x.check(1, 0, p, 0));
            bad("check of b " + p + " ahead of FULL", x -> x.check(1, 0, 0, p));
        }
        bad("check with other sorts: a", x -> x.check(0, 0, 1, 0));
        bad("check with other sorts: a", x -> x.check(0, 4, 2, 0));
        bad("check with other sorts: b", x -> x.check(0, 4, 1, 2));
        bad("check with other sorts ahead of FULL", x -> x.check(1, 2, 0, 0));
    }

    private static void refusedRecords() {
        for (int place : NO_PLACES) {
            bad("give of " + place, x -> x.give(0, 9, place));
            bad("make at " + place, x -> x.make(3, place));
            bad("told at " + place, x -> x.told(place, NONE));
            bad("take from " + place, x -> x.take(place, 2, 2));
            bad("take to " + place, x -> x.take(3, 2, place));
        }
        for (int shape : NO_SHAPES) {
            bad("make of SHAPE " + shape, x -> x.make(shape, 3));
        }
        for (int p : NO_PARTS) {
            bad("give for " + p, x -> x.give(p, 9, 9));
            bad("told of " + p, x -> x.told(3, p));
            bad("take of " + p, x -> x.take(3, p, 2));
        }
        bad("give for NONE", x -> x.give(NONE, 9, 9));
        bad("take of NONE", x -> x.take(3, NONE, 2));
        bad("told of no such PART", x -> x.told(3, 3));
        bad("take of no such PART", x -> x.take(3, 3, 2));
        bad("take of a NUMBER", x -> x.take(3, 0, 2));
        for (int place : new int[] {1, 2, 9}) {
            bad("told of no RECORD", x -> x.told(place, NONE));
            bad("told of no RECORD", x -> x.told(place, 0));
            bad("take of no RECORD", x -> x.take(place, 0, 3));
        }
    }

    private static void refusedAsFull() {
        for (int kind = 0; kind <= 5; kind++) {
            int told = kind;
            CALLS.add(new Refused("a 61st constant", FULL, x -> x.constant(told, NEW, 0)));
            bad("a 61st constant, BODY", x -> x.constant(told, NEW, 3));
            bad("a 61st constant, NAME", x -> x.constant(told, A - 1, 0));
        }
        bad("a 61st constant, KIND", x -> x.constant(6, NEW, 0));
        bad("a 61st constant, a NAME that is there", x -> x.constant(0, nameOf(0), 0));
        bad("arrange of CONSTANT 60", x -> x.arrange(60, 1));
        bad("arrange of all that are in it", x -> x.arrange(59, 2));
        bad("worth of CONSTANT 60", x -> x.worth(60, 1));
        bad("weigh of CONSTANT 60", x -> x.weigh(60, 1));
        bad("hold of CONSTANT 60", x -> x.hold(0, 60));
        bad("order of CONSTANT 60", x -> x.order(60, 0));
        bad("about CONSTANT 60", x -> x.about(60, 0));
    }

    /**
     * CONSTANTS 0 to 4 in KINDS 0, 1 and 5, of which 5 is not STARTED; PLACES 1, 2, 3 with a CONSTANT, a ROW and a
     * RECORD; SHAPE 1 is FULL; all that is GIVEN differs; the latest make() failed at PART 1 of SHAPE 0.
     */
    private static ConstantKinds inUse() {
        ConstantKinds x = new ConstantKinds();
        x.constant(0, A, 0);
        x.constant(0, Due.name("b"), 1);
        x.constant(0, Due.name("c"), 2);
        x.constant(1, A, 1);
        x.constant(5, Due.name("z"), 0);
        x.weigh(0, 2);
        x.weigh(1, 3);
        x.weigh(3, 1000);
        x.arrange(2, 1);
        x.arrange(0, 1);
        x.arrange(1, 2);
        x.draw(1, 0, 5, 5);
        x.hold(1, 0);
        x.row(2, 3);
        for (int i = 0; i < 3; i++) {
            x.item(2, i, 7 + i);
        }
        shapesInUse(x);
        x.give(0, 1, 0);
        x.give(1, 0, 1);
        x.give(2, 0, 2);
        Due.same("the RECORD", x.make(0, 3), 0);
        for (int p = 0; p < 5; p++) {
            x.give(p, p == 0 ? 10 : 11 + p, p == 1 ? 2 : p);
        }
        Due.same("the latest make", x.make(0, 3), 1);
        return x;
    }

    /** SHAPE 0 has a NUMBER, a CONSTANT and a ROW with a CHECK, SHAPE 1 all that it can have. */
    private static void shapesInUse(ConstantKinds x) {
        x.part(0, 0, 10);
        x.part(0, 1, 0);
        x.part(0, 3, 0);
        x.check(0, 2, 2, 0);
        for (int p = 0; p < 5; p++) {
            x.part(1, 0, 1000);
        }
        for (int c = 0; c < 4; c++) {
            x.check(1, 0, c, 4);
        }
        x.part(2, 4, 0);
    }

    private static ConstantKinds full() {
        ConstantKinds x = new ConstantKinds();
        for (int i = 0; i < 60; i++) {
            Due.same("constant", x.constant(i % 6, nameOf(i), i % 3), i);
        }
        x.arrange(59, 2);
        x.weigh(0, 1000);
        return x;
    }

    private static long nameOf(int i) {
        return Due.name("n" + (char) ('a' + i / 26) + (char) ('a' + i % 26));
    }
}
