import java.util.ArrayList;
import java.util.Collections;
import java.util.List;

/** Promises 1 to 9: a new object, constants, builds, worth. */
public final class ConstantsTest {
    private static final int BAD = -1, FULL = -2, NONE = -3;
    private static final int[] WRONG_KINDS = {-1, 6, NONE, Integer.MIN_VALUE, Integer.MAX_VALUE};
    private static final int[] WRONG_BUILDS = {-1, 3, NONE, Integer.MIN_VALUE, Integer.MAX_VALUE};

    public static void main(String[] args) {
        promise1NewObject();
        promise2ConstantNumbers();
        promise2Names();
        promise2Bad();
        promise2Full();
        promise3Arrange();
        promise4Shuffle();
        promise4Bad();
        promise5Kind();
        promise5FullKind();
        promise6Named();
        promise7Order();
        promise8About();
        promise9Worth();
        promise9Act();
        Due.end();
    }

    private static void promise1NewObject() {
        ConstantKinds x = new ConstantKinds();
        for (int what = 0; what <= 5; what++) {
            Due.same("new count(" + what + ")", x.count(what), 0);
        }
        for (int kind = 0; kind < 6; kind++) {
            Due.same("new started", x.started(kind), NONE);
            for (int build = 0; build < 3; build++) {
                Due.same("new kind", x.kind(kind, build, NONE), 0);
            }
        }
        for (int place = 0; place < 10; place++) {
            Due.same("new family", x.family(place), 0);
        }
        for (int shape = 0; shape < 6; shape++) {
            Due.same("check of a shape without parts", x.check(shape, 0, 0, 0), BAD);
            Due.same("first part", x.part(shape, 0, 0), 0);
            Due.same("first check", x.check(shape, 0, 0, 0), 0);
        }
        Due.same("BAD", ConstantKinds.BAD, -1);
        Due.same("FULL", ConstantKinds.FULL, -2);
        Due.same("NONE", ConstantKinds.NONE, -3);
    }

    private static void promise2ConstantNumbers() {
        ConstantKinds x = new ConstantKinds();
        for (int i = 0; i < 6; i++) {
            Due.same("numbers go over all kinds", x.constant(5 - i, Due.name("a"), i % 3), i);
            Due.same("it is in build 0", x.kind(5 - i, 0, 0), i);
            Due.same("it is not in build 1", x.kind(5 - i, 1, NONE), 0);
            Due.same("it is not in build 2", x.kind(5 - i, 2, NONE), 0);
            Due.same("weight at first", x.about(i, 2), 0);
        }
        Due.same("behind the first one", x.constant(3, Due.name("b"), 0), 6);
        Due.same("its order", x.order(6, 0), 1);
        Due.same("count", x.count(0), 7);
        Due.same("no act", x.count(1), 0);
    }

    private static void promise2Names() {
        ConstantKinds x = new ConstantKinds();
        Due.same("one letter a", x.constant(0, Due.name("a"), 0), 0);
        Due.same("one letter z", x.constant(0, Due.name("z"), 0), 1);
        Due.same("eight letters", x.constant(0, Due.name("zzzzzzzz"), 0), 2);
        Due.same("eight letters, other last", x.constant(0, Due.name("zzzzzzza"), 0), 3);
        Due.same("two letters that begin alike", x.constant(0, Due.name("az"), 0), 4);
        Due.same("same name in another kind", x.constant(1, Due.name("az"), 0), 5);
        Due.same("eight letters found", x.named(0, Due.name("zzzzzzza")), 3);
    }

    private static void promise2Bad() {
        ConstantKinds x = new ConstantKinds();
        x.constant(0, Due.name("red"), 0);
        long[] wrong = {0L, 'a' - 1, 'z' + 1, 'A', Due.name("red"), Due.name("\0a"), Due.name("a\0b"),
            Due.name("a\0\0\0\0\0\0b"), Due.name("aaaaaaa{"), Due.name("aaaaaaa`"), Due.name("aaaaaaa\u00E1"),
            Due.name("a1"), -1L, Long.MIN_VALUE, Long.MAX_VALUE, Due.name("a") | Long.MIN_VALUE, 0x6100L};
        for (long name : wrong) {
            Due.same("constant with name " + name, x.constant(0, name, 0), BAD);
        }
        for (int kind : WRONG_KINDS) {
            Due.same("constant of kind " + kind, x.constant(kind, Due.name("b"), 0), BAD);
        }
        for (int body : new int[] {-1, 3, Integer.MIN_VALUE, Integer.MAX_VALUE}) {
            Due.same("constant of body " + body, x.constant(0, Due.name("b"), body), BAD);
        }
        Due.same("nothing came", x.count(0), 1);
        Due.same("nothing came into the build", x.kind(0, 0, NONE), 1);
    }

    private static void promise2Full() {
        ConstantKinds x = new ConstantKinds();
        for (int i = 0; i < 60; i++) {
            Due.same("constant " + i, x.constant(i % 2, nameOf(i), i % 3), i);
        }
        Due.same("one too many", x.constant(5, Due.name("more"), 0), FULL);
        Due.same("bad kind ahead of full", x.constant(6, Due.name("more"), 0), BAD);
        Due.same("bad name ahead of full", x.constant(1, nameOf(1), 0), BAD);
        Due.same("bad body ahead of full", x.constant(1, Due.name("more"), 3), BAD);
        Due.same("nothing came", x.count(0), 60);
        Due.same("nothing came into the build", x.kind(5, 0, NONE), 0);
        Due.same("the last one", x.about(59, 0), 1);
        Due.same("behind the last one", x.about(60, 0), BAD);
    }

    private static void promise3Arrange() {
        ConstantKinds x = threeOfKind(4);
        x.constant(1, Due.name("other"), 0);
        Due.same("arrange first", x.arrange(2, 1), 0);
        Due.same("arrange behind", x.arrange(0, 1), 1);
        Due.same("the builds are apart", x.arrange(0, 2), 0);
        Due.same("the kinds are apart", x.arrange(3, 1), 0);
        Due.same("it is in it", x.arrange(2, 1), BAD);
        Due.same("build 0", x.arrange(1, 0), BAD);
        for (int build : WRONG_BUILDS) {
            Due.same("arrange in build " + build, x.arrange(1, build), BAD);
        }
        for (int constant : new int[] {-1, 4, NONE, Integer.MIN_VALUE, Integer.MAX_VALUE}) {
            Due.same("arrange constant " + constant, x.arrange(constant, 1), BAD);
        }
        Due.same("row of the build", x.kind(4, 1, 0), 2);
        Due.same("row of the build", x.kind(4, 1, 1), 0);
        Due.same("length of the build", x.kind(4, 1, NONE), 2);
        Due.same("build 0 stays", x.kind(4, 0, NONE), 3);
    }

    private static void promise4Shuffle() {
        long[] seeds = {0, 1, 3, -1, 7, Long.MIN_VALUE, Long.MAX_VALUE, 0x123456789ABCDEFL};
        for (int size : new int[] {0, 1, 2, 3, 13, 60}) {
            for (int build = 1; build <= 2; build++) {
                ConstantKinds x = arranged(size, build);
                List<Integer> want = new ArrayList<>();
                for (int i = 0; i < size; i++) {
                    want.add(size - 1 - i);
                }
                for (long seed : size > 20 ? new long[] {-9} : seeds) {
                    Due.same("shuffle of " + size, x.shuffle(2, build, seed), size);
                    for (int i = size - 1; i >= 1; i--) {
                        Collections.swap(want, i, Draws.modulo(seed, i, i + 1));
                    }
                    for (int i = 0; i < size; i++) {
                        Due.same("shuffled place " + i, x.kind(2, build, i), want.get(i));
                    }
                }
            }
        }
    }

    private static void promise4Bad() {
        ConstantKinds x = arranged(5, 1);
        Due.same("shuffle of build 0", x.shuffle(2, 0, 1), BAD);
        for (int build : WRONG_BUILDS) {
            Due.same("shuffle of build " + build, x.shuffle(2, build, 1), BAD);
        }
        for (int kind : WRONG_KINDS) {
            Due.same("shuffle of kind " + kind, x.shuffle(kind, 1, 1), BAD);
        }
        for (int i = 0; i < 5; i++) {
            Due.same("build 0 is as they came", x.kind(2, 0, i), i);
            Due.same("build 1 is as told", x.kind(2, 1, i), 4 - i);
        }
        x.shuffle(2, 1, 12);
        Due.same("a shuffle is no act", x.count(1), 0);
        Due.same("a shuffle is no draw", x.count(2), 0);
        Due.same("a shuffle starts none", x.started(2), NONE);
        for (int i = 0; i < 5; i++) {
            Due.same("build 0 stays as they came", x.kind(2, 0, i), i);
            Due.same("order of the one there", x.order(x.kind(2, 1, i), 1), i);
        }
    }

    private static void promise5Kind() {
        ConstantKinds x = threeOfKind(5);
        x.arrange(1, 2);
        Due.same("length", x.kind(5, 0, NONE), 3);
        Due.same("length", x.kind(5, 2, NONE), 1);
        Due.same("first", x.kind(5, 0, 0), 0);
        Due.same("last", x.kind(5, 0, 2), 2);
        Due.same("first of build 2", x.kind(5, 2, 0), 1);
        for (int i : new int[] {-1, -2, -4, 3, 60, Integer.MIN_VALUE, Integer.MAX_VALUE}) {
            Due.same("kind at " + i, x.kind(5, 0, i), BAD);
        }
        Due.same("behind the last", x.kind(5, 2, 1), BAD);
        Due.same("in an empty one", x.kind(4, 0, 0), BAD);
        for (int kind : WRONG_KINDS) {
            Due.same("kind " + kind, x.kind(kind, 0, NONE), BAD);
        }
        for (int build : WRONG_BUILDS) {
            Due.same("build " + build, x.kind(5, build, NONE), BAD);
        }
    }

    private static void promise5FullKind() {
        ConstantKinds x = arranged(60, 1);
        for (int build = 0; build <= 1; build++) {
            Due.same("length", x.kind(2, build, NONE), 60);
            Due.same("last", x.kind(2, build, 59), build == 0 ? 59 : 0);
            Due.same("behind the last", x.kind(2, build, 60), BAD);
            Due.same("behind the last", x.kind(2, build, 61), BAD);
        }
        Due.same("all are in it", x.arrange(59, 1), BAD);
        Due.same("no such name", x.named(2, Due.name("zz")), NONE);
    }

    private static void promise6Named() {
        ConstantKinds x = threeOfKind(3);
        x.constant(2, nameOf(1), 0);
        Due.same("named", x.named(3, nameOf(1)), 1);
        Due.same("named", x.named(3, nameOf(2)), 2);
        Due.same("named in another kind", x.named(2, nameOf(1)), 3);
        Due.same("not in that kind", x.named(2, nameOf(2)), NONE);
        Due.same("in no kind", x.named(3, Due.name("zz")), NONE);
        Due.same("no name", x.named(3, 0), NONE);
        Due.same("no name", x.named(3, -1), NONE);
        Due.same("no name", x.named(3, nameOf(1) | (long) 'a' << 32), NONE);
        for (int kind : WRONG_KINDS) {
            Due.same("named in kind " + kind, x.named(kind, nameOf(1)), BAD);
        }
    }

    private static void promise7Order() {
        ConstantKinds x = threeOfKind(0);
        x.constant(1, Due.name("other"), 0);
        x.arrange(2, 1);
        x.arrange(1, 1);
        Due.same("order", x.order(2, 0), 2);
        Due.same("order of another kind", x.order(3, 0), 0);
        Due.same("order in build 1", x.order(2, 1), 0);
        Due.same("order in build 1", x.order(1, 1), 1);
        Due.same("not in build 1", x.order(0, 1), NONE);
        Due.same("not in build 2", x.order(2, 2), NONE);
        for (int build : WRONG_BUILDS) {
            Due.same("order in build " + build, x.order(0, build), BAD);
        }
        for (int constant : new int[] {-1, 4, NONE, Integer.MIN_VALUE, Integer.MAX_VALUE}) {
            Due.same("order of constant " + constant, x.order(constant, 0), BAD);
        }
    }

    private static void promise8About() {
        ConstantKinds x = threeOfKind(4);
        for (int i = 0; i < 3; i++) {
            Due.same("kind", x.about(i, 0), 4);
            Due.same("body", x.about(i, 1), i);
            x.weigh(i, 10 + i);
            Due.same("weight", x.about(i, 2), 10 + i);
            Due.same("not drawn", x.about(i, 3), 0);
        }
        int[] drawn = new int[3];
        for (int n = 0; n < 30; n++) {
            drawn[x.draw(4, 0, 5, n)]++;
        }
        for (int i = 0; i < 3; i++) {
            Due.same("how often drawn", x.about(i, 3), drawn[i]);
        }
        for (int what : new int[] {-1, 4, NONE, Integer.MIN_VALUE, Integer.MAX_VALUE}) {
            Due.same("about " + what, x.about(0, what), BAD);
        }
        for (int constant : new int[] {-1, 3, NONE, Integer.MIN_VALUE, Integer.MAX_VALUE}) {
            Due.same("about constant " + constant, x.about(constant, 0), BAD);
        }
    }

    private static void promise9Worth() {
        ConstantKinds x = new ConstantKinds();
        x.constant(1, Due.name("first"), 0);
        for (int i = 0; i < 6; i++) {
            x.constant(0, nameOf(i), i % 3);
        }
        int[] values = {0, 5, -7, Integer.MAX_VALUE, Integer.MIN_VALUE, 1 << 30};
        for (int v : values) {
            for (int i = 0; i < 6; i++) {
                int plain = v + i;
                int want = i % 3 == 0 ? plain : i % 3 == 1 ? plain * 2 : plain * 2 - 3;
                Due.same("worth(" + (i + 1) + ", " + v + ")", x.worth(i + 1, v), want);
            }
        }
        x.arrange(6, 1);
        Due.same("build 1 does not matter", x.worth(6, 10), 27);
    }

    private static void promise9Act() {
        ConstantKinds x = threeOfKind(2);
        for (int constant : new int[] {-1, 3, NONE, Integer.MIN_VALUE, Integer.MAX_VALUE}) {
            Due.same("worth of constant " + constant, x.worth(constant, 1), BAD);
        }
        Due.same("no act", x.count(1), 0);
        Due.same("none started", x.started(2), NONE);
        x.worth(0, 0);
        x.worth(1, 0);
        Due.same("acts", x.count(1), 2);
        Due.same("the first act started it", x.started(2), 0);
    }

    private static ConstantKinds threeOfKind(int kind) {
        ConstantKinds x = new ConstantKinds();
        for (int i = 0; i < 3; i++) {
            x.constant(kind, nameOf(i), i);
        }
        return x;
    }

    /** A build of kind 2, in which the constants 0 .. size - 1 stand from the last to the first. */
    private static ConstantKinds arranged(int size, int build) {
        ConstantKinds x = new ConstantKinds();
        for (int i = 0; i < size; i++) {
            x.constant(2, nameOf(i), 0);
        }
        for (int i = 0; i < size; i++) {
            Due.same("arrange", x.arrange(size - 1 - i, build), i);
        }
        return x;
    }

    private static long nameOf(int i) {
        return Due.name("n" + (char) ('a' + i / 26) + (char) ('a' + i % 26));
    }
}
