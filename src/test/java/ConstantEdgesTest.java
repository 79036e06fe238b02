import java.util.function.IntUnaryOperator;

/**
 * Promises 1 to 12: for each sentence of the document on constants, builds, tables and draws that names an edge, a
 * test of its own.
 */
public final class ConstantEdgesTest {
    private static final int BAD = -1, FULL = -2, NONE = -3;
    private static final int LEAST = Integer.MIN_VALUE, MOST = Integer.MAX_VALUE;
    private static final long A = Due.name("a");

    public static void main(String[] args) {
        kinds0To5();
        constants60AtMost();
        constants60OverAllKinds();
        constantsNumberedFrom0();
        names1To8Letters();
        namesOfLettersAToZ();
        namesWith0Behind();
        namesOnceInTheirKind();
        namedTellsNoneForNoName();
        bodies0To2();
        weights0To1000();
        builds0To2();
        buildsToldAre1And2();
        build0AsTheyCome();
        arrangedOnceInABuild();
        ordersFrom0On();
        kindTellsOrders();
        shuffleOfFew();
        shuffleDownTo1();
        shuffleWithoutSign();
        aboutWhat0To3();
        worthGoesRound();
        worthMayBeBad();
        tableWithoutConstants();
        tableWholeAbove0();
        tableLacksTheFirst();
        streamsFrom0On();
        drawGoesRound();
        drawMarks();
        drawOfTheGreatestSum();
        drawOfATableThatIsNotWhole();
        Due.end();
    }

    /** "KINDS 0 .. 5" */
    private static void kinds0To5() {
        Edges.range("constant of KIND", 0, 5, kind -> new ConstantKinds().constant(kind, A, 0), kind -> 0);
        Edges.range("shuffle of KIND", 0, 5, kind -> oneOfEachKind().shuffle(kind, 1, 7), kind -> 1);
        Edges.range("kind of KIND", 0, 5, kind -> oneOfEachKind().kind(kind, 0, 0), kind -> kind);
        Edges.range("kind of KIND, how many", 0, 5, kind -> oneOfEachKind().kind(kind, 0, NONE), kind -> 1);
        Edges.range("named of KIND", 0, 5, kind -> oneOfEachKind().named(kind, A), kind -> kind);
        Edges.range("table of KIND", 0, 5, kind -> oneOfEachKind().table(kind, 0), kind -> 0);
        Edges.range("draw of KIND", 0, 5, kind -> oneOfEachKind().draw(kind, 0, 7, 0), kind -> kind);
        Edges.range("started of KIND", 0, 5, kind -> oneOfEachKind().started(kind), kind -> NONE);
    }

    /** "60 at most", "FULL" */
    private static void constants60AtMost() {
        for (int kind = 0; kind <= 5; kind++) {
            ConstantKinds x = ofKind(kind, 60);
            Due.same("count of all", x.count(0), 60);
            Due.same("all in BUILD 0", x.kind(kind, 0, NONE), 60);
            Due.same("the last of them", x.kind(kind, 0, 59), 59);
            for (int other = 0; other <= 5; other++) {
                Due.same("the 61st", x.constant(other, A, 0), FULL);
                Due.same("it did not come", x.named(other, A), NONE);
            }
            Due.same("still 60", x.count(0), 60);
            Due.same("still 60 in BUILD 0", x.kind(kind, 0, NONE), 60);
        }
        ConstantKinds x = ofKind(3, 59);
        Due.same("refused as the 60th", x.constant(3, nameOf(0), 0), BAD);
        Due.same("the 60th", x.constant(3, A, 2), 59);
        Due.same("the 61st", x.constant(3, Due.name("b"), 2), FULL);
        Due.same("the 61st, of a NAME that is there", x.constant(3, A, 2), BAD);
        Due.same("the 61st, of a NAME that is none", x.constant(3, 0, 2), BAD);
        Due.same("the 61st, of a KIND that is none", x.constant(6, Due.name("b"), 2), BAD);
        Due.same("the 61st, of a BODY that is none", x.constant(3, Due.name("b"), 3), BAD);
    }

    /** "numbered over all KINDS from 0 as they come" */
    private static void constants60OverAllKinds() {
        ConstantKinds x = new ConstantKinds();
        for (int i = 0; i < 60; i++) {
            Due.same("numbers over all KINDS", x.constant(i % 6, nameOf(i), 0), i);
        }
        for (int kind = 0; kind <= 5; kind++) {
            Due.same("ten of each KIND", x.kind(kind, 0, NONE), 10);
            Due.same("the first", x.kind(kind, 0, 0), kind);
            Due.same("the last", x.kind(kind, 0, 9), 54 + kind);
            Due.same("the 61st", x.constant(kind, A, 0), FULL);
        }
    }

    /** "numbered .. from 0": no other number is a CONSTANT to any call. */
    private static void constantsNumberedFrom0() {
        for (int size : new int[] {0, 1, 2, 60}) {
            int last = size - 1;
            constants("arrange", last, c -> ofKind(2, size).arrange(c, 1), c -> 0);
            constants("order", last, c -> ofKind(2, size).order(c, 0), c -> c);
            constants("about", last, c -> ofKind(2, size).about(c, 0), c -> 2);
            constants("worth", last, c -> ofKind(2, size).worth(c, 100), c -> c == 1 ? 202 : 100 + c);
            constants("weigh", last, c -> ofKind(2, size).weigh(c, 5), c -> 0);
            constants("hold", last, c -> ofKind(2, size).hold(0, c), c -> 2);
        }
    }

    private static void constants(String call, int last, IntUnaryOperator asked, IntUnaryOperator want) {
        if (last < 0) {
            Edges.none(call + " with no CONSTANT", asked);
        } else {
            Edges.range(call + " with CONSTANTS up to " + last, 0, last, asked, want);
        }
    }

    /** "NAME (1 to 8 letters" */
    private static void names1To8Letters() {
        Due.same("no letter", new ConstantKinds().constant(0, 0L, 0), BAD);
        ConstantKinds x = new ConstantKinds();
        String letters = "";
        for (int length = 1; length <= 8; length++) {
            letters += "k";
            Due.same(length + " letters", x.constant(0, Due.name(letters), 0), length - 1);
            Due.same(length + " letters named", x.named(0, Due.name(letters)), length - 1);
        }
        Due.same("eight letters", Due.name(letters), 0x6B6B6B6B6B6B6B6BL);
    }

    /** "letters a .. z": at each of the eight bytes, the ends of the letters and what is next to them. */
    private static void namesOfLettersAToZ() {
        int[] right = {'a', 'b', 'y', 'z'};
        int[] wrong = {'a' - 1, 'z' + 1, 'A', 'Z', '0', ' ', 1, 127, 128, 'a' + 128, 'z' + 128, 255};
        for (int at = 0; at < 8; at++) {
            for (int letter : right) {
                long name = withByte("mmmmmmmm".substring(0, at + 1), at, letter);
                Due.same("last byte " + at + " is " + letter, new ConstantKinds().constant(0, name, 0), 0);
                name = withByte("mmmmmmmm", at, letter);
                Due.same("byte " + at + " of 8 is " + letter, new ConstantKinds().constant(0, name, 0), 0);
            }
            for (int letter : wrong) {
                long name = withByte("mmmmmmmm".substring(0, at + 1), at, letter);
                Due.same("last byte " + at + " is " + letter, new ConstantKinds().constant(0, name, 0), BAD);
                name = withByte("mmmmmmmm", at, letter);
                Due.same("byte " + at + " of 8 is " + letter, new ConstantKinds().constant(0, name, 0), BAD);
            }
        }
    }

    /** "its bytes from the lowest on, 0 behind": no 0 ahead of a letter. */
    private static void namesWith0Behind() {
        for (int length = 2; length <= 8; length++) {
            for (int gap = 0; gap < length - 1; gap++) {
                long name = withByte("mmmmmmmm".substring(0, length), gap, 0);
                Due.same("0 at " + gap + " of " + length, new ConstantKinds().constant(0, name, 0), BAD);
            }
        }
        Due.same("a letter in the highest byte alone", new ConstantKinds().constant(0, A << 56, 0), BAD);
    }

    /** "once in its KIND", "a NAME that .. is there already" */
    private static void namesOnceInTheirKind() {
        ConstantKinds x = new ConstantKinds();
        long eight = Due.name("abcdefgh");
        for (int kind = 0; kind <= 5; kind++) {
            Due.same("first in its KIND", x.constant(kind, eight, 0), kind);
        }
        for (int kind = 0; kind <= 5; kind++) {
            for (int body = 0; body <= 2; body++) {
                Due.same("again in its KIND", x.constant(kind, eight, body), BAD);
            }
            Due.same("one in its KIND", x.kind(kind, 0, NONE), 1);
        }
        Due.same("another first letter", x.constant(0, Due.name("bbcdefgh"), 0), 6);
        Due.same("another last letter", x.constant(0, Due.name("abcdefgi"), 0), 7);
        Due.same("a letter less", x.constant(0, Due.name("abcdefg"), 0), 8);
        Due.same("four letters less", x.constant(0, Due.name("abcd"), 0), 9);
        Due.same("the first one again", x.constant(0, eight, 0), BAD);
        Due.same("the last one again", x.constant(0, Due.name("abcd"), 0), BAD);
        Due.same("named by all letters", x.named(0, eight), 0);
        Due.same("named by all but the last", x.named(0, Due.name("abcdefg")), 8);
    }

    /** named(): "NONE. BAD: KIND" alone, whatever the NAME. */
    private static void namedTellsNoneForNoName() {
        ConstantKinds x = oneOfEachKind();
        long[] names = {0, 1, -1, A - 1, A + 1, A << 8, A | A << 32, A | Long.MIN_VALUE, Long.MIN_VALUE,
            Long.MAX_VALUE};
        for (long name : names) {
            Due.same("named " + name, x.named(5, name), NONE);
            Due.same("named " + name + " in no KIND", x.named(6, name), BAD);
            Due.same("named " + name + " in an empty KIND", new ConstantKinds().named(0, name), NONE);
        }
    }

    /** "a BODY (0 PLAIN, 1 TWICE, 2 LESS)" */
    private static void bodies0To2() {
        Edges.range("constant of BODY", 0, 2, body -> new ConstantKinds().constant(0, A, body), body -> 0);
        for (int body = 0; body <= 2; body++) {
            ConstantKinds x = new ConstantKinds();
            x.constant(0, A, body);
            Due.same("about its BODY", x.about(0, 1), body);
        }
    }

    /** "a WEIGHT (0 .. 1000; 0 at first)" */
    private static void weights0To1000() {
        Edges.range("weigh with WEIGHT", 0, 1000, w -> oneOfEachKind().weigh(3, w), w -> 1);
        Edges.range("WEIGHT after weigh", 0, 1000, w -> weightAfter(w, BAD), w -> w);
        ConstantKinds x = ofKind(1, 2);
        Due.same("0 at first", x.about(0, 2), 0);
        Due.same("0 at first", x.weigh(0, 1000), 0);
        Due.same("too much", x.weigh(0, 1001), BAD);
        Due.same("too little", x.weigh(0, -1), BAD);
        Due.same("it stayed", x.weigh(0, 0), 1000);
        Due.same("0 again", x.about(0, 2), 0);
        Due.same("the other one stayed", x.about(1, 2), 0);
    }

    private static int weightAfter(int w, int ifRefused) {
        ConstantKinds x = oneOfEachKind();
        return x.weigh(0, w) == BAD ? ifRefused : x.about(0, 2);
    }

    /** "BUILDS 0 .. 2" */
    private static void builds0To2() {
        Edges.range("kind of BUILD", 0, 2, build -> oneOfEachKind().kind(4, build, 0), build -> 4);
        Edges.range("kind of BUILD, how many", 0, 2, build -> oneOfEachKind().kind(4, build, NONE), build -> 1);
        Edges.range("order in BUILD", 0, 2, build -> oneOfEachKind().order(4, build), build -> 0);
        Edges.range("table of BUILD", 0, 2, build -> oneOfEachKind().table(4, build), build -> 0);
        Edges.range("draw of BUILD", 0, 2, build -> oneOfEachKind().draw(4, build, 1, 0), build -> 4);
        Edges.range("order in BUILD of the last KIND", 0, 2, build -> oneOfEachKind().order(5, build), build -> 0);
    }

    /** arrange(), shuffle(): "a BUILD 1, 2" */
    private static void buildsToldAre1And2() {
        Edges.range("arrange in BUILD", 1, 2, build -> ofKind(0, 2).arrange(1, build), build -> 0);
        Edges.range("shuffle of BUILD", 1, 2, build -> oneOfEachKind().shuffle(0, build, 1), build -> 1);
        Edges.range("shuffle of an empty BUILD", 1, 2, build -> ofKind(0, 2).shuffle(0, build, 1), build -> 0);
    }

    /** "BUILD 0 all, as they come, the others as told" */
    private static void build0AsTheyCome() {
        ConstantKinds x = ofKind(2, 3);
        for (int build = 1; build <= 2; build++) {
            Due.same("nothing told yet", x.kind(2, build, NONE), 0);
            Due.same("not in it", x.order(0, build), NONE);
        }
        Due.same("not into BUILD 0 again", x.arrange(0, 0), BAD);
        Due.same("BUILD 0 has no other order", x.shuffle(2, 0, 5), BAD);
        for (int i = 0; i < 3; i++) {
            Due.same("as they came", x.kind(2, 0, i), i);
        }
    }

    /** "each once", arrange(): "BAD: also it is in it" */
    private static void arrangedOnceInABuild() {
        ConstantKinds x = ofKind(2, 60);
        for (int i = 0; i < 60; i++) {
            Due.same("behind the others", x.arrange(59 - i, 1), i);
            Due.same("in it by now", x.arrange(59 - i, 1), BAD);
        }
        Due.same("all are in it", x.kind(2, 1, NONE), 60);
        Due.same("the first is in it", x.arrange(59, 1), BAD);
        Due.same("none is in BUILD 2", x.kind(2, 2, NONE), 0);
        Due.same("first in BUILD 2", x.arrange(59, 2), 0);
        x.shuffle(2, 1, 77);
        Due.same("in it after a shuffle", x.arrange(0, 1), BAD);
        Due.same("none more", x.kind(2, 1, NONE), 60);
    }

    /** "its place from 0 on; NONE: it is not in it" */
    private static void ordersFrom0On() {
        ConstantKinds x = ofKind(2, 60);
        Due.same("first", x.order(0, 0), 0);
        Due.same("last", x.order(59, 0), 59);
        Due.same("not in BUILD 1", x.order(59, 1), NONE);
        Due.same("arranged", x.arrange(59, 1), 0);
        Due.same("first in BUILD 1", x.order(59, 1), 0);
        Due.same("not in BUILD 2", x.order(59, 2), NONE);
        Due.same("another is not in it", x.order(58, 1), NONE);
    }

    /** kind(): "How many .. (i = NONE), or that of ORDER i. BAD: also none such." */
    private static void kindTellsOrders() {
        for (int size : new int[] {1, 2, 60}) {
            ConstantKinds x = ofKind(2, size);
            Edges.rangeOrNone("kind of ORDER", 0, size - 1, i -> x.kind(2, 0, i), i -> i == NONE ? size : i);
            Due.same("an empty BUILD", x.kind(2, 1, NONE), 0);
            Due.same("none in it", x.kind(2, 1, 0), BAD);
        }
        ConstantKinds x = ofKind(2, 60);
        for (int i = 0; i < 60; i++) {
            x.arrange(59 - i, 2);
        }
        Edges.rangeOrNone("kind of ORDER, BUILD 2", 0, 59, i -> x.kind(2, 2, i), i -> i == NONE ? 60 : 59 - i);
    }

    /** shuffle() of none and of one: nothing to change, but no refusal. */
    private static void shuffleOfFew() {
        for (long seed : new long[] {0, -1, 5, Long.MIN_VALUE, Long.MAX_VALUE}) {
            ConstantKinds x = ofKind(2, 1);
            Due.same("shuffle of none", x.shuffle(2, 1, seed), 0);
            x.arrange(0, 1);
            Due.same("shuffle of one", x.shuffle(2, 1, seed), 1);
            Due.same("the one", x.kind(2, 1, 0), 0);
            Due.same("shuffle of a KIND without CONSTANTS", x.shuffle(0, 2, seed), 0);
        }
    }

    /** shuffle(): "from its last place down to 1", "stream i": of two, stream 1 alone tells whether they change. */
    private static void shuffleDownTo1() {
        int changed = 0;
        for (int seed = 0; seed < 40; seed++) {
            ConstantKinds x = ofKind(2, 2);
            x.arrange(1, 1);
            x.arrange(0, 1);
            x.shuffle(2, 1, seed);
            boolean stays = Draws.modulo(seed, 1, 2) == 1;
            changed += stays ? 0 : 1;
            Due.same("first of two, seed " + seed, x.kind(2, 1, 0), stays ? 1 : 0);
            Due.same("last of two, seed " + seed, x.kind(2, 1, 1), stays ? 0 : 1);
        }
        Due.yes("some change, some stay", changed > 0 && changed < 40);
    }

    /** shuffle(): "without sign modulo (i + 1)", for draws below and above the greatest long. */
    private static void shuffleWithoutSign() {
        for (long seed = -20; seed < 20; seed++) {
            ConstantKinds x = ofKind(2, 3);
            int[] row = {0, 1, 2};
            for (int i = 0; i < 3; i++) {
                x.arrange(i, 2);
            }
            x.shuffle(2, 2, seed);
            for (int i = 2; i >= 1; i--) {
                int at = Draws.modulo(seed, i, i + 1);
                int kept = row[i];
                row[i] = row[at];
                row[at] = kept;
            }
            for (int i = 0; i < 3; i++) {
                Due.same("place " + i + " of three, seed " + seed, x.kind(2, 2, i), row[i]);
            }
        }
    }

    /** about(): "what = 0 its KIND, 1 BODY, 2 WEIGHT, 3 how often it was drawn. BAD." */
    private static void aboutWhat0To3() {
        ConstantKinds x = new ConstantKinds();
        x.constant(5, A, 2);
        x.weigh(0, 1000);
        for (int n = 0; n < 7; n++) {
            x.draw(5, 0, 1, n);
        }
        int[] want = {5, 2, 1000, 7};
        Edges.range("about", 0, 3, what -> x.about(0, what), what -> want[what]);
        Edges.none("about of no CONSTANT", what -> x.about(1, what));
    }

    /** "32 bits, going round" */
    private static void worthGoesRound() {
        int[][] want = {
            // v, then a PLAIN of ORDER 0, a TWICE of 1, a LESS of 2, a PLAIN of 59
            {0, 0, 2, 1, 59},
            {MOST, MOST, 0, -1, -2147483590},
            {MOST - 1, MOST - 1, -2, -3, -2147483591},
            {MOST - 58, MOST - 58, -116, -117, LEAST},
            {MOST - 59, MOST - 59, -118, -119, MOST},
            {LEAST, LEAST, 2, 1, LEAST + 59},
            {-1, -1, 0, -1, 58},
            {-2, -2, -2, -3, 57},
            {1073741822, 1073741822, 2147483646, 2147483645, 1073741881},
            {1073741823, 1073741823, LEAST, 2147483647, 1073741882},
            {-1073741825, -1073741825, LEAST, 2147483647, -1073741766},
            {-1073741824, -1073741824, -2147483646, -2147483647, -1073741765},
            {-1073741826, -1073741826, 2147483646, 2147483645, -1073741767},
        };
        ConstantKinds x = ofKind(2, 60);
        for (int[] line : want) {
            int v = line[0];
            Due.same("a PLAIN for " + v, x.worth(0, v), line[1]);
            Due.same("a TWICE for " + v, x.worth(1, v), line[2]);
            Due.same("a LESS for " + v, x.worth(2, v), line[3]);
            Due.same("a PLAIN of ORDER 59 for " + v, x.worth(59, v), line[4]);
        }
    }

    /** A WORTH of -1 is no refusal: it is an ACT, and starts the KIND. */
    private static void worthMayBeBad() {
        ConstantKinds x = oneOfEachKind();
        Due.same("no such CONSTANT", x.worth(6, -1), BAD);
        Due.same("no ACT", x.count(1), 0);
        Due.same("none started", x.count(5), 0);
        Due.same("a WORTH of -1", x.worth(4, -1), -1);
        Due.same("an ACT", x.count(1), 1);
        Due.same("started", x.started(4), 0);
    }

    /** "is whole, if there is a CONSTANT in it", table(): "1 there is no CONSTANT" */
    private static void tableWithoutConstants() {
        ConstantKinds x = ofKind(2, 1);
        x.weigh(0, 1000);
        Due.same("a KIND without CONSTANTS", x.table(1, 0), 1);
        Due.same("a BUILD without CONSTANTS", x.table(2, 1), 1);
        Due.same("a BUILD with one", x.table(2, 0), 0);
        x.arrange(0, 1);
        Due.same("a BUILD that has one by now", x.table(2, 1), 0);
        Due.same("the other BUILD", x.table(2, 2), 1);
    }

    /** "each has a WEIGHT above 0" */
    private static void tableWholeAbove0() {
        ConstantKinds x = ofKind(2, 60);
        for (int i = 0; i < 60; i++) {
            Due.same("lacks " + i, x.table(2, 0), -10 - i);
            x.weigh(i, i % 2 == 0 ? 1 : 1000);
        }
        Due.same("whole", x.table(2, 0), 0);
        x.weigh(59, 0);
        Due.same("lacks the last", x.table(2, 0), -69);
    }

    /** "it LACKS the first, by ORDER, that has none" */
    private static void tableLacksTheFirst() {
        ConstantKinds x = ofKind(2, 4);
        x.arrange(3, 1);
        x.arrange(1, 1);
        x.arrange(2, 1);
        Due.same("first in BUILD 1", x.table(2, 1), -13);
        x.weigh(3, 1);
        Due.same("second in BUILD 1", x.table(2, 1), -11);
        x.weigh(1, 1);
        Due.same("last in BUILD 1", x.table(2, 1), -12);
        x.weigh(2, 1);
        Due.same("whole, though 0 lacks one", x.table(2, 1), 0);
        Due.same("BUILD 0 lacks it", x.table(2, 0), -10);
        x.weigh(1, 0);
        x.weigh(3, 0);
        Due.same("first in BUILD 1 again", x.table(2, 1), -13);
    }

    /** draw(): "BAD: also n below 0" */
    private static void streamsFrom0On() {
        ConstantKinds x = weighed(5, 1);
        for (int n : new int[] {0, 1, 2, MOST - 1, MOST}) {
            Due.same("stream " + n, x.draw(2, 0, 3, n), Draws.modulo(3, n, 5));
        }
        for (int n : new int[] {-1, -2, -3, -4, LEAST, LEAST + 1}) {
            Due.same("stream " + n, x.draw(2, 0, 3, n), BAD);
            Due.same("stream " + n + " of a TABLE that is not whole", x.draw(2, 1, 3, n), BAD);
        }
        Due.same("five draws", x.count(2), 5);
        Due.same("five ACTS", x.count(1), 5);
    }

    /** A DRAW of the ends of the seeds: what goes beyond 64 bits is cut off, and the last is taken without sign. */
    private static void drawGoesRound() {
        long[] seeds = {0, 1, -1, Long.MIN_VALUE, Long.MIN_VALUE + 1, Long.MAX_VALUE - 1, Long.MAX_VALUE,
            -0x9E3779B97F4A7C15L, 0x61C8864680B583EBL, 1L << 32, -1L << 32};
        int[] streams = {0, 1, 59, 65535, MOST - 1, MOST};
        for (int size : new int[] {2, 3, 60}) {
            ConstantKinds x = weighed(size, 1);
            for (long seed : seeds) {
                for (int n : streams) {
                    Due.same("draw of " + seed + ", " + n, x.draw(2, 0, seed, n), Draws.modulo(seed, n, size));
                }
            }
        }
    }

    /** "the first CONSTANT by ORDER, up to which with its own WEIGHTS are more than that", with WEIGHTS of 3, 1, 2. */
    private static void drawMarks() {
        int[] drawn = {0, 0, 0, 1, 2, 2};
        int[] seen = new int[6];
        ConstantKinds x = ofKind(2, 3);
        x.weigh(0, 3);
        x.weigh(1, 1);
        x.weigh(2, 2);
        for (int n = 0; n < 100; n++) {
            int mark = Draws.modulo(99, n, 6);
            seen[mark]++;
            Due.same("draw at " + mark, x.draw(2, 0, 99, n), drawn[mark]);
        }
        for (int mark = 0; mark < 6; mark++) {
            Due.yes("mark " + mark + " was asked for", seen[mark] > 0);
        }
        Due.same("how often 0", x.about(0, 3), seen[0] + seen[1] + seen[2]);
        Due.same("how often 1", x.about(1, 3), seen[3]);
        Due.same("how often 2", x.about(2, 3), seen[4] + seen[5]);
    }

    private static void drawOfTheGreatestSum() {
        ConstantKinds x = weighed(60, 1000);
        for (int n = 0; n < 200; n++) {
            int mark = Draws.modulo(-4, n, 60000);
            Due.same("draw at " + mark, x.draw(2, 0, -4, n), mark / 1000);
        }
        ConstantKinds y = weighed(1, 1);
        for (int n = 0; n < 20; n++) {
            Due.same("draw of the least sum", y.draw(2, 0, -4, n), 0);
        }
        Due.same("how often", y.about(0, 3), 20);
    }

    /** draw(): "NONE: the TABLE is not whole (no ACT then)" */
    private static void drawOfATableThatIsNotWhole() {
        ConstantKinds x = weighed(3, 1);
        x.weigh(2, 0);
        Due.same("the last has no WEIGHT", x.draw(2, 0, 1, 0), NONE);
        Due.same("no CONSTANT in the BUILD", x.draw(2, 1, 1, 0), NONE);
        Due.same("no CONSTANT in the KIND", x.draw(0, 0, 1, 0), NONE);
        Due.same("BAD ahead of NONE: n", x.draw(0, 0, 1, -1), BAD);
        Due.same("BAD ahead of NONE: KIND", x.draw(6, 0, 1, 0), BAD);
        Due.same("BAD ahead of NONE: BUILD", x.draw(2, 3, 1, 0), BAD);
        Due.same("no ACT", x.count(1), 0);
        Due.same("no draw", x.count(2), 0);
        Due.same("none started", x.started(2), NONE);
        x.arrange(0, 1);
        Due.same("the BUILD is whole, though the KIND is not", x.draw(2, 1, 1, 0), 0);
        Due.same("the first ACT", x.started(2), 0);
        x.weigh(2, 1);
        Due.same("whole by now", x.draw(2, 0, 1, 0), Draws.modulo(1, 0, 3));
        Due.same("two ACTS", x.count(1), 2);
    }

    /** CONSTANT i is of KIND i, its WEIGHT is 1, and it is in each BUILD. */
    private static ConstantKinds oneOfEachKind() {
        ConstantKinds x = new ConstantKinds();
        for (int kind = 0; kind <= 5; kind++) {
            x.constant(kind, A, 0);
            x.weigh(kind, 1);
            x.arrange(kind, 1);
            x.arrange(kind, 2);
        }
        return x;
    }

    /** All are PLAIN but for 1, a TWICE, and 2, a LESS. */
    private static ConstantKinds ofKind(int kind, int size) {
        ConstantKinds x = new ConstantKinds();
        for (int i = 0; i < size; i++) {
            Due.same("constant", x.constant(kind, nameOf(i), i == 1 || i == 2 ? i : 0), i);
        }
        return x;
    }

    private static ConstantKinds weighed(int size, int weight) {
        ConstantKinds x = ofKind(2, size);
        for (int i = 0; i < size; i++) {
            x.weigh(i, weight);
        }
        return x;
    }

    private static long withByte(String letters, int at, int letter) {
        return Due.name(letters.substring(0, at) + (char) letter + letters.substring(at + 1));
    }

    private static long nameOf(int i) {
        return Due.name("n" + (char) ('a' + i / 26) + (char) ('a' + i % 26));
    }
}
