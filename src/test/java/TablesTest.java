/** Promises 10 to 12: weights, tables, draws. */
public final class TablesTest {
    private static final int BAD = -1, NONE = -3;

    public static void main(String[] args) {
        promise10Weigh();
        promise11Table();
        promise12Draw();
        promise12Marks();
        promise12Builds();
        promise12Refused();
        Due.end();
    }

    private static void promise10Weigh() {
        ConstantKinds x = weighted(2, 0);
        Due.same("weigh at first", x.weigh(0, 1000), 0);
        Due.same("weigh again", x.weigh(0, 0), 1000);
        Due.same("weigh again", x.weigh(0, 7), 0);
        Due.same("the other one", x.about(1, 2), 0);
        for (int w : new int[] {-1, 1001, Integer.MIN_VALUE, Integer.MAX_VALUE}) {
            Due.same("weight " + w, x.weigh(0, w), BAD);
        }
        for (int constant : new int[] {-1, 2, NONE, Integer.MIN_VALUE, Integer.MAX_VALUE}) {
            Due.same("weigh constant " + constant, x.weigh(constant, 1), BAD);
        }
        Due.same("the weight stayed", x.about(0, 2), 7);
        Due.same("no act", x.count(1), 0);
    }

    private static void promise11Table() {
        ConstantKinds x = weighted(3, 0);
        Due.same("lacks the first", x.table(1, 0), -10);
        x.weigh(0, 1);
        Due.same("lacks the second", x.table(1, 0), -11);
        x.weigh(2, 1);
        Due.same("still the second", x.table(1, 0), -11);
        x.weigh(1, 1);
        Due.same("whole", x.table(1, 0), 0);
        Due.same("no constant", x.table(1, 1), 1);
        Due.same("no constant", x.table(0, 0), 1);
        x.arrange(2, 2);
        x.arrange(0, 2);
        Due.same("whole", x.table(1, 2), 0);
        x.weigh(0, 0);
        x.weigh(2, 0);
        Due.same("the first by its own order", x.table(1, 2), -12);
        Due.same("the first by its own order", x.table(1, 0), -10);
        for (int kind : new int[] {-1, 6, Integer.MIN_VALUE, Integer.MAX_VALUE}) {
            Due.same("table of kind " + kind, x.table(kind, 0), BAD);
        }
        for (int build : new int[] {-1, 3, Integer.MIN_VALUE, Integer.MAX_VALUE}) {
            Due.same("table of build " + build, x.table(1, build), BAD);
        }
        Due.same("a table starts none", x.started(1), NONE);
    }

    private static void promise12Draw() {
        long[] seeds = {0, 7, -1, Long.MIN_VALUE, Long.MAX_VALUE, 0x9E3779B97F4A7C15L};
        int[] streams = {0, 1, 2, 59, 1000000, Integer.MAX_VALUE - 1, Integer.MAX_VALUE};
        for (int size : new int[] {1, 2, 7, 60}) {
            ConstantKinds x = weighted(size, 1);
            int sum = 0;
            for (int i = 0; i < size; i++) {
                x.weigh(i, 1 + 397 * i % 1000);
                sum += 1 + 397 * i % 1000;
            }
            int acts = 0;
            for (long seed : seeds) {
                for (int n : streams) {
                    int left = Draws.modulo(seed, n, sum);
                    int want = 0;
                    while (left >= 1 + 397 * want % 1000) {
                        left -= 1 + 397 * want % 1000;
                        want++;
                    }
                    Due.same("draw of " + size + " for " + seed + ", " + n, x.draw(1, 0, seed, n), want);
                    acts++;
                }
            }
            Due.same("acts", x.count(1), acts);
            Due.same("draws", x.count(2), acts);
            Due.same("started", x.started(1), 0);
        }
    }

    /** Weights of 1 show every mark, at which a sum that is as much, not more, must be passed by. */
    private static void promise12Marks() {
        ConstantKinds x = weighted(5, 1);
        for (int n = 0; n < 100; n++) {
            Due.same("draw among five alike", x.draw(1, 0, -5, n), Draws.modulo(-5, n, 5));
        }
    }

    private static void promise12Builds() {
        ConstantKinds x = weighted(4, 0);
        x.arrange(3, 2);
        x.arrange(1, 2);
        x.weigh(3, 1);
        x.weigh(1, 2);
        int threes = 0;
        for (int n = 0; n < 40; n++) {
            int want = Draws.modulo(11, n, 3) < 1 ? 3 : 1;
            threes += want == 3 ? 1 : 0;
            Due.same("draw from build 2", x.draw(1, 2, 11, n), want);
        }
        Due.same("how often", x.about(3, 3), threes);
        Due.same("how often", x.about(1, 3), 40 - threes);
        Due.same("the whole kind is not whole", x.draw(1, 0, 11, 0), NONE);
    }

    private static void promise12Refused() {
        ConstantKinds x = weighted(2, 0);
        Due.same("no weight", x.draw(1, 0, 1, 0), NONE);
        x.weigh(0, 5);
        Due.same("one without weight", x.draw(1, 0, 1, 0), NONE);
        Due.same("no constant", x.draw(1, 1, 1, 0), NONE);
        Due.same("no constant", x.draw(2, 0, 1, 0), NONE);
        Due.same("bad ahead of none", x.draw(1, 0, 1, -1), BAD);
        x.weigh(1, 5);
        Due.same("stream below 0", x.draw(1, 0, 1, -1), BAD);
        Due.same("stream below 0", x.draw(1, 0, 1, Integer.MIN_VALUE), BAD);
        for (int kind : new int[] {-1, 6, Integer.MIN_VALUE, Integer.MAX_VALUE}) {
            Due.same("draw of kind " + kind, x.draw(kind, 0, 1, 0), BAD);
        }
        for (int build : new int[] {-1, 3, Integer.MIN_VALUE, Integer.MAX_VALUE}) {
            Due.same("draw of build " + build, x.draw(1, build, 1, 0), BAD);
        }
        Due.same("no act", x.count(1), 0);
        Due.same("no draw", x.count(2), 0);
        Due.same("none started", x.started(1), NONE);
        Due.same("not drawn", x.about(0, 3) + x.about(1, 3), 0);
    }

    private static ConstantKinds weighted(int size, int weight) {
        ConstantKinds x = new ConstantKinds();
        for (int i = 0; i < size; i++) {
            x.constant(1, Due.name("n" + (char) ('a' + i / 26) + (char) ('a' + i % 26)), i % 3);
            x.weigh(i, weight);
        }
        return x;
    }
}
