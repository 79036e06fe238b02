import java.lang.reflect.Method;
import java.lang.reflect.Modifier;
import java.util.ArrayList;
import java.util.Arrays;
import java.util.Collections;
import java.util.List;
import java.util.Map;
import java.util.Random;
import java.util.TreeMap;

/** Runs of 512 calls of every sort: the class answers each as a second reading of the document does. */
public final class ModelTest {
    private static final int RUNS = 1500, CALLS = 512, SETTING_UP = 60;
    /** The sort of PART a that each kind of CHECK asks for; 2 does as well where 1 does. */
    private static final int[] SORT_OF_A = {0, 0, 3, 3, 1, 4};
    /** The FAMILY to be given for a PART of each sort (a NUMBER asks for none). */
    private static final int[] FAMILY_OF_SORT = {0, 1, 2, 4, 5};
    private static final int[] FAR = {-1, -2, -3, -4, -10, 3, 4, 5, 6, 9, 10, 12, 13, 59, 60, 999, 1000, 1001,
        Integer.MIN_VALUE, Integer.MAX_VALUE};
    private static final long[] EDGE_NAMES = {0, -1, 1, 0x60, 0x7B, 0x6100, 0x61006162, Long.MIN_VALUE, Long.MAX_VALUE,
        0x6161616161616161L, 0x7A7A7A7A7A7A7A7AL, 0x6161616161616100L};
    private static final Map<String, Method> FACE = face();

    private final Random random;
    private final int run;
    private final ConstantKinds x = new ConstantKinds();
    private final Model model = new Model();
    private final StringBuilder told = new StringBuilder();
    private final List<List<Integer>> sorts = new ArrayList<>();
    private int calls = 0;
    private boolean unlike = false;

    private ModelTest(int run) {
        this.run = run;
        random = new Random(run);
        for (int shape = 0; shape <= 5; shape++) {
            sorts.add(new ArrayList<>());
        }
    }

    public static void main(String[] args) throws ReflectiveOperationException {
        Due.same("calls of the face", FACE.size(), 27);
        for (int run = 0; run < RUNS; run++) {
            ModelTest test = new ModelTest(run);
            switch (run % 4) {
                case 0 -> test.ladders();
                case 1 -> test.records();
                default -> test.anyCalls();
            }
        }
        Due.end();
    }

    private static Map<String, Method> face() {
        Map<String, Method> face = new TreeMap<>();
        for (Method method : Model.class.getDeclaredMethods()) {
            if (Modifier.isPublic(method.getModifiers())) {
                face.put(method.getName(), method);
            }
        }
        return face;
    }

    private boolean goesOn() {
        return !unlike && calls < CALLS;
    }

    // ---- runs

    /** Some calls are left out of a run and others come often, so that runs go far in different ways. */
    private void anyCalls() throws ReflectiveOperationException {
        List<String> often = new ArrayList<>(List.of("count"));
        for (String name : FACE.keySet()) {
            int times = random.nextInt(4) == 0 ? 0 : 1 + random.nextInt(6);
            often.addAll(Collections.nCopies(times, name));
        }
        while (goesOn()) {
            anyOf(calls < SETTING_UP ? List.of("constant", "part", "check", "weigh") : often);
        }
    }

    /** Most PARTS are given what they ask for, as few RECORDS of several PARTS would be made by chance. */
    private void records() throws ReflectiveOperationException {
        while (goesOn()) {
            if (calls < SETTING_UP) {
                anyOf(List.of("constant", "part", "hold", "row", "item"));
                fittingCheck(random.nextInt(3));
            } else {
                anyOf(List.of("hold", "row", "item", "share", "take", "told", "like", "part", "started", "count"));
                fittingMake(random.nextInt(3));
            }
        }
    }

    /** Two RECORDS, each made around itself again and again, to be LIKE or not many others deep. */
    private void ladders() throws ReflectiveOperationException {
        ask("part", 0, 4, 0);
        ask("part", 0, 0, 3);
        ask("give", 0, 0, 9);
        ask("make", 0, 0);
        ask("make", 0, 1);
        while (goesOn()) {
            int place = random.nextInt(2);
            ask("give", 0, 0, place);
            ask("give", 1, random.nextInt(30) == 0 ? 1 : 0, 0);
            ask("make", 0, place);
            ask("like", 0, 1);
            if (random.nextInt(40) == 0) {
                ask("share", place, 1 - place);
            }
            if (random.nextInt(12) == 0) {
                ask("take", place, 0, place);
            }
        }
    }

    private void fittingCheck(int shape) throws ReflectiveOperationException {
        List<Integer> of = sorts.get(shape);
        int b = of.indexOf(0);
        int kind = random.nextInt(6);
        int a = random.nextBoolean() ? of.indexOf(SORT_OF_A[kind]) : of.lastIndexOf(SORT_OF_A[kind]);
        if (a >= 0 && b >= 0 && random.nextInt(4) == 0) {
            ask("check", shape, kind, a, b);
        }
    }

    private void fittingMake(int shape) throws ReflectiveOperationException {
        for (int p = 0; p < sorts.get(shape).size(); p++) {
            if (random.nextInt(3) != 0) {
                ask("give", p, upTo(1000, 3), fittingPlace(FAMILY_OF_SORT[sorts.get(shape).get(p)]));
            }
        }
        ask("make", shape, place());
        ask("cause", 0);
        ask("cause", 1);
    }

    private int fittingPlace(int family) {
        int from = random.nextInt(10);
        for (int i = 0; i < 10; i++) {
            int place = (from + i) % 10;
            if (model.family(place) == family && random.nextInt(5) != 0) {
                return place;
            }
        }
        return from;
    }

    // ---- calls

    private void anyOf(List<String> names) throws ReflectiveOperationException {
        String name = names.get(random.nextInt(names.size()));
        ask(name, arguments(name));
    }

    private void ask(String name, Object... arguments) throws ReflectiveOperationException {
        if (!goesOn()) {
            return;
        }
        calls++;
        Method method = FACE.get(name);
        int want = (Integer) method.invoke(model, arguments);
        int got = (Integer) ConstantKinds.class.getMethod(name, method.getParameterTypes()).invoke(x, arguments);
        String call = name + Arrays.toString(arguments);
        Due.same("run " + run + ": " + call, got, want);
        told.append(call).append(" = ").append(want).append('\n');
        if (name.equals("part") && want >= 0) {
            sorts.get((Integer) arguments[0]).add((Integer) arguments[1]);
        }
        if (got != want) {
            unlike = true;
            System.out.println("the run, as it is due:\n" + told);
        }
    }

    private Object[] arguments(String name) {
        return switch (name) {
            case "constant" -> new Object[] {upTo(5, 2), anyName(), upTo(2, 2)};
            case "arrange", "order" -> new Object[] {constant(), upTo(2, 2)};
            case "shuffle" -> new Object[] {upTo(5, 2), upTo(2, 2), random.nextLong()};
            case "kind" -> new Object[] {upTo(5, 2), upTo(2, 2), random.nextInt(3) == 0 ? -3 : upTo(20, 8)};
            case "named" -> new Object[] {upTo(5, 2), anyName()};
            case "about" -> new Object[] {constant(), upTo(3, 3)};
            case "worth" -> new Object[] {constant(), anyNumber()};
            case "weigh" -> new Object[] {constant(), upTo(1000, 5)};
            case "table" -> new Object[] {upTo(5, 2), upTo(2, 2)};
            case "draw" -> new Object[] {upTo(5, 2), upTo(2, 2), random.nextLong(), upTo(Integer.MAX_VALUE - 1, 9)};
            case "hold" -> new Object[] {place(), constant()};
            case "row" -> new Object[] {place(), random.nextInt(9) == 0 ? -3 : upTo(12, 2)};
            case "item" -> new Object[] {place(), upTo(12, 2), anyNumber()};
            case "share", "like" -> new Object[] {place(), place()};
            case "is" -> new Object[] {place(), upTo(5, 5)};
            case "family" -> new Object[] {place()};
            case "part" -> new Object[] {upTo(5, 2), upTo(4, 4), upTo(1000, 3)};
            case "check" -> new Object[] {upTo(5, 2), upTo(5, 5), upTo(4, 4), upTo(4, 4)};
            case "give" -> new Object[] {upTo(4, 4), upTo(1000, 4), place()};
            case "make" -> new Object[] {upTo(5, 2), place()};
            case "told" -> new Object[] {place(), random.nextInt(5) == 0 ? -3 : upTo(4, 4)};
            case "take" -> new Object[] {place(), upTo(4, 4), place()};
            case "cause" -> new Object[] {upTo(1, 1)};
            case "started", "count" -> new Object[] {upTo(5, 5)};
            default -> throw new IllegalArgumentException(name);
        };
    }

    /** Mostly one of the few least numbers, that calls meet; at times any that is allowed, or one far off. */
    private int upTo(int most, int mostly) {
        int choice = random.nextInt(40);
        if (choice == 0) {
            return FAR[random.nextInt(FAR.length)];
        }
        return random.nextInt(1 + (choice < 5 ? most : mostly));
    }

    private int constant() {
        return upTo(59, 20);
    }

    private int place() {
        return upTo(9, 5);
    }

    private int anyNumber() {
        return random.nextInt(5) == 0 ? random.nextInt() : random.nextInt(4) - 1;
    }

    private long anyName() {
        if (random.nextInt(20) == 0) {
            return EDGE_NAMES[random.nextInt(EDGE_NAMES.length)];
        }
        char[] letters = new char[1 + random.nextInt(2)];
        for (int i = 0; i < letters.length; i++) {
            letters[i] = (char) ('a' + random.nextInt(26));
        }
        return Due.name(new String(letters));
    }
}
