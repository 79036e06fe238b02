import java.util.ArrayList;
import java.util.List;
import java.util.Random;

/**
 * Runs of calls with ordinary, edge and wrong arguments: none throws, the same calls give the same answers, and
 * what is refused changes nothing (without the refused calls all others answer as before).
 */
public final class AnyCallsTest {
    private static final int RUNS = 2000, CALLS = 150, METHODS = 27;
    private static final int BAD = -1, FULL = -2, NONE = -3;
    private static final int[] EDGES = {-1, -2, -3, -4, -10, 6, 10, 12, 13, 59, 60, 1000, 1001, Integer.MIN_VALUE,
        Integer.MAX_VALUE};
    private static final long[] EDGE_NAMES = {0, -1, 1, Long.MIN_VALUE, Long.MAX_VALUE, 0x6100L};

    private record Call(int method, int a, int b, int c, int d, long name) {
    }

    public static void main(String[] args) {
        Random random = new Random(20261116);
        int[] answered = new int[METHODS];
        for (int run = 0; run < RUNS; run++) {
            oneRun(run, random, answered);
        }
        for (int method = 0; method < METHODS; method++) {
            Due.yes("method " + method + " was answered often: " + answered[method], answered[method] > 100);
        }
        Due.end();
    }

    private static void oneRun(int run, Random random, int[] answered) {
        ConstantKinds x = new ConstantKinds();
        List<Call> kept = new ArrayList<>();
        List<Integer> answers = new ArrayList<>();
        for (int i = 0; i < CALLS; i++) {
            Call call = anyCall(random, i);
            int answer = ask(x, call);
            if (!isRefused(call.method, answer)) {
                kept.add(call);
                answers.add(answer);
                answered[call.method]++;
            }
        }
        ConstantKinds y = new ConstantKinds();
        for (int i = 0; i < kept.size(); i++) {
            Due.same("run " + run + ", " + kept.get(i) + " again", ask(y, kept.get(i)), answers.get(i));
        }
        Due.yes("run " + run + ": both objects tell the same", State.of(x).equals(State.of(y)));
    }

    private static Call anyCall(Random random, int i) {
        int method = i < 20 ? random.nextInt(20) < 10 ? 0 : 18 : random.nextInt(METHODS);
        long name = random.nextInt(10) == 0 ? EDGE_NAMES[random.nextInt(EDGE_NAMES.length)] : anyName(random);
        return new Call(method, any(random, 6), any(random, 5), any(random, 4), any(random, 3), name);
    }

    private static int any(Random random, int bound) {
        int choice = random.nextInt(30);
        return choice == 0 ? EDGES[random.nextInt(EDGES.length)] : choice == 1 ? NONE : random.nextInt(bound);
    }

    private static long anyName(Random random) {
        return Due.name("" + (char) ('a' + random.nextInt(20)) + (random.nextBoolean() ? "b" : ""));
    }

    /** Numbers above 4 keep each item and worth apart from BAD. */
    private static int ask(ConstantKinds x, Call call) {
        int a = call.a, b = call.b, c = call.c;
        int number = 5 + Math.floorMod(c, 50);
        return switch (call.method) {
            case 0 -> x.constant(c, call.name, call.d);
            case 1 -> x.arrange(a, call.d);
            case 2 -> x.shuffle(c, call.d, call.name);
            case 3 -> x.kind(c, call.d, b);
            case 4 -> x.named(c, call.name);
            case 5 -> x.order(a, call.d);
            case 6 -> x.about(a, c);
            case 7 -> x.worth(a, number);
            case 8 -> x.weigh(a, b);
            case 9 -> x.table(c, call.d);
            case 10 -> x.draw(c, call.d, call.name, a);
            case 11 -> x.hold(a, b);
            case 12 -> x.row(a, b);
            case 13 -> x.item(a, c, number);
            case 14 -> x.share(a, b);
            case 15 -> x.family(a);
            case 16 -> x.is(a, b);
            case 17 -> x.like(a, b);
            case 18 -> x.part(c, b, call.d);
            case 19 -> x.check(c, a, b, call.d);
            case 20 -> x.give(b, c, a);
            case 21 -> x.make(c, a);
            case 22 -> x.cause(call.d);
            case 23 -> x.told(a, c);
            case 24 -> x.take(a, c, b);
            case 25 -> x.started(c);
            default -> x.count(a);
        };
    }

    private static boolean isRefused(int method, int answer) {
        return answer == BAD || answer == FULL || method == 10 && answer == NONE;
    }
}
