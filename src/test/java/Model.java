import java.util.ArrayList;
import java.util.Arrays;
import java.util.Collections;
import java.util.HashMap;
import java.util.List;
import java.util.Map;

/**
 * The document read a second time, in another form than the class has: texts for names, lists and maps for rows,
 * an exception for a MAKING that fails, ORDERS and STARTED KINDS looked up anew at each call.
 */
public final class Model {
    private static final int BAD = -1, FULL = -2, NONE = -3;

    private static final class Constant {
        int number, kind, body, weight, drawn;
        String name;
    }

    private record Row(int[] items) {
    }

    /** A PART is an Integer, a THING, or null for NOTHING. */
    private record Made(int shape, List<Object> parts) {
    }

    private record Part(int sort, int k) {
    }

    private record Check(int kind, int a, int b) {
    }

    private static final class Failed extends Exception {
        private static final long serialVersionUID = 1;
        final int why, at;

        Failed(int why, int at) {
            this.why = why;
            this.at = at;
        }
    }

    private final List<Constant> constants = new ArrayList<>();
    private final Map<String, List<Constant>> builds = new HashMap<>();
    private final Map<Integer, Object> places = new HashMap<>();
    private final Map<Integer, List<Part>> parts = new HashMap<>();
    private final Map<Integer, List<Check>> checks = new HashMap<>();
    private final Map<Integer, int[]> given = new HashMap<>();
    /** The KINDS that each ACT used. */
    private final List<List<Integer>> acts = new ArrayList<>();
    private int draws = 0, records = 0, failure = 0, failedAt = NONE;

    // ---- constants

    public int constant(int kind, long name, int body) {
        if (!in(kind, 5) || text(name) == null || named(kind, name) != NONE || !in(body, 2)) {
            return BAD;
        }
        if (constants.size() == 60) {
            return FULL;
        }
        Constant added = new Constant();
        added.number = constants.size();
        added.kind = kind;
        added.name = text(name);
        added.body = body;
        constants.add(added);
        build(kind, 0).add(added);
        return added.number;
    }

    public int arrange(int constant, int build) {
        if (!there(constant) || build != 1 && build != 2 || order(constant, build) != NONE) {
            return BAD;
        }
        build(constants.get(constant).kind, build).add(constants.get(constant));
        return order(constant, build);
    }

    public int shuffle(int kind, int build, long seed) {
        if (!in(kind, 5) || build != 1 && build != 2) {
            return BAD;
        }
        List<Constant> row = build(kind, build);
        for (int i = row.size() - 1; i >= 1; i--) {
            Collections.swap(row, i, Draws.modulo(seed, i, i + 1));
        }
        return row.size();
    }

    public int kind(int kind, int build, int i) {
        if (!in(kind, 5) || !in(build, 2)) {
            return BAD;
        }
        List<Constant> row = build(kind, build);
        if (i == NONE) {
            return row.size();
        }
        return in(i, row.size() - 1) ? row.get(i).number : BAD;
    }

    public int named(int kind, long name) {
        if (!in(kind, 5)) {
            return BAD;
        }
        String wanted = text(name);
        for (Constant each : constants) {
            if (each.kind == kind && each.name.equals(wanted)) {
                return each.number;
            }
        }
        return NONE;
    }

    public int order(int constant, int build) {
        if (!there(constant) || !in(build, 2)) {
            return BAD;
        }
        int place = build(constants.get(constant).kind, build).indexOf(constants.get(constant));
        return place < 0 ? NONE : place;
    }

    public int about(int constant, int what) {
        if (!there(constant) || !in(what, 3)) {
            return BAD;
        }
        Constant asked = constants.get(constant);
        return List.of(asked.kind, asked.body, asked.weight, asked.drawn).get(what);
    }

    public int worth(int constant, int v) {
        if (!there(constant)) {
            return BAD;
        }
        acts.add(List.of(constants.get(constant).kind));
        long plain = (long) v + order(constant, 0);
        long[] byBody = {plain, 2 * plain, 2 * plain - 3};
        return (int) byBody[constants.get(constant).body];
    }

    // ---- tables, draws

    public int weigh(int constant, int w) {
        if (!there(constant) || !in(w, 1000)) {
            return BAD;
        }
        int before = constants.get(constant).weight;
        constants.get(constant).weight = w;
        return before;
    }

    public int table(int kind, int build) {
        if (!in(kind, 5) || !in(build, 2)) {
            return BAD;
        }
        for (Constant each : build(kind, build)) {
            if (each.weight == 0) {
                return -10 - each.number;
            }
        }
        return build(kind, build).isEmpty() ? 1 : 0;
    }

    /** Each CONSTANT stands as often as it weighs in a long row, in which the DRAW is a place. */
    public int draw(int kind, int build, long seed, int n) {
        if (!in(kind, 5) || !in(build, 2) || n < 0) {
            return BAD;
        }
        if (table(kind, build) != 0) {
            return NONE;
        }
        List<Constant> lots = new ArrayList<>();
        for (Constant each : build(kind, build)) {
            lots.addAll(Collections.nCopies(each.weight, each));
        }
        Constant drawn = lots.get(Draws.modulo(seed, n, lots.size()));
        drawn.drawn++;
        draws++;
        acts.add(List.of(kind));
        return drawn.number;
    }

    // ---- places

    public int hold(int place, int constant) {
        if (!in(place, 9) || !there(constant)) {
            return BAD;
        }
        places.put(place, constants.get(constant));
        acts.add(List.of(constants.get(constant).kind));
        return constants.get(constant).kind;
    }

    public int row(int place, int n) {
        if (!in(place, 9) || n != NONE && !in(n, 12)) {
            return BAD;
        }
        places.put(place, n == NONE ? null : new Row(new int[n]));
        return 1;
    }

    public int item(int place, int i, int v) {
        if (!(places.get(place) instanceof Row row) || !in(i, row.items.length - 1)) {
            return BAD;
        }
        int before = row.items[i];
        row.items[i] = v;
        return before;
    }

    public int share(int place, int from) {
        if (!in(place, 9) || !in(from, 9)) {
            return BAD;
        }
        places.put(place, places.get(from));
        return family(place);
    }

    public int family(int place) {
        return in(place, 9) ? familyOf(places.get(place)) : BAD;
    }

    public int is(int place, int family) {
        if (!in(place, 9) || family == 0 || !in(family, 5)) {
            return BAD;
        }
        int own = family(place);
        return own == family || own == 3 && family == 2 ? 1 : 0;
    }

    public int like(int a, int b) {
        if (!in(a, 9) || !in(b, 9)) {
            return BAD;
        }
        return alike(places.get(a), places.get(b), 0) ? 1 : 0;
    }

    // ---- records

    public int part(int shape, int sort, int k) {
        int[] most = {1000, 5, Integer.MAX_VALUE, Integer.MAX_VALUE, 5};
        if (!in(shape, 5) || !in(sort, 4) || sort != 2 && sort != 3 && !in(k, most[sort])) {
            return BAD;
        }
        return addTo(parts.computeIfAbsent(shape, s -> new ArrayList<>()), new Part(sort, k), 5);
    }

    public int check(int shape, int kind, int a, int b) {
        List<Part> of = parts.getOrDefault(shape, List.of());
        if (!in(kind, 5) || !in(a, of.size() - 1) || !in(b, of.size() - 1) || of.get(b).sort != 0) {
            return BAD;
        }
        String[] sorts = {"0", "0", "3", "3", "12", "4"};
        if (!sorts[kind].contains("" + of.get(a).sort)) {
            return BAD;
        }
        return addTo(checks.computeIfAbsent(shape, s -> new ArrayList<>()), new Check(kind, a, b), 4);
    }

    public int give(int p, int v, int place) {
        if (!in(p, 4) || !in(place, 9)) {
            return BAD;
        }
        given.put(p, new int[] {v, place});
        return 1;
    }

    public int make(int shape, int place) {
        if (!in(shape, 5) || !in(place, 9)) {
            return BAD;
        }
        List<Integer> used = new ArrayList<>();
        acts.add(used);
        try {
            List<Object> taken = takeParts(parts.getOrDefault(shape, List.of()), used);
            List<Check> all = checks.getOrDefault(shape, List.of());
            for (int c = 0; c < all.size(); c++) {
                look(all.get(c), taken, 10 + c);
            }
            places.put(place, new Made(shape, taken));
            records++;
            failure = 0;
            failedAt = NONE;
        } catch (Failed failed) {
            failure = failed.why;
            failedAt = failed.at;
        }
        return failure;
    }

    public int cause(int what) {
        return what == 0 ? failure : what == 1 ? failedAt : BAD;
    }

    public int told(int place, int p) {
        if (!(places.get(place) instanceof Made made)) {
            return BAD;
        }
        if (p == NONE) {
            return made.shape;
        }
        if (!in(p, made.parts.size() - 1)) {
            return BAD;
        }
        return made.parts.get(p) instanceof Integer number ? number : familyOf(made.parts.get(p)) - 10;
    }

    public int take(int place, int p, int to) {
        if (!(places.get(place) instanceof Made made) || !in(p, made.parts.size() - 1) || !in(to, 9)) {
            return BAD;
        }
        if (made.parts.get(p) instanceof Integer) {
            return BAD;
        }
        places.put(to, made.parts.get(p));
        return family(to);
    }

    public int started(int kind) {
        if (!in(kind, 5)) {
            return BAD;
        }
        for (int act = 0; act < acts.size(); act++) {
            if (acts.get(act).contains(kind)) {
                return act;
            }
        }
        return NONE;
    }

    public int count(int what) {
        if (!in(what, 5)) {
            return BAD;
        }
        int holding = 0, begun = 0;
        for (int place = 0; place <= 9; place++) {
            holding += places.get(place) == null ? 0 : 1;
        }
        for (int kind = 0; kind <= 5; kind++) {
            begun += started(kind) == NONE ? 0 : 1;
        }
        return List.of(constants.size(), acts.size(), draws, records, holding, begun).get(what);
    }

    // ---- what the terms say

    private static boolean in(int number, int most) {
        return 0 <= number && number <= most;
    }

    private boolean there(int constant) {
        return in(constant, constants.size() - 1);
    }

    private List<Constant> build(int kind, int build) {
        return builds.computeIfAbsent(kind + " " + build, b -> new ArrayList<>());
    }

    private static <T> int addTo(List<T> list, T added, int most) {
        if (list.size() == most) {
            return FULL;
        }
        list.add(added);
        return list.size() - 1;
    }

    /** The letters of a NAME, or null where the number is none. */
    private static String text(long name) {
        StringBuilder bytes = new StringBuilder();
        for (int i = 0; i < 8; i++) {
            bytes.append((char) (name >>> 8 * i & 255));
        }
        return bytes.toString().matches("[a-z]{1,8}\0*") ? bytes.toString().replace("\0", "") : null;
    }

    private static int familyOf(Object thing) {
        if (thing instanceof Constant constant) {
            return 1 + constant.body;
        }
        return thing instanceof Row ? 4 : thing instanceof Made ? 5 : 0;
    }

    private static boolean alike(Object a, Object b, int others) {
        if (a == b || a instanceof Integer && a.equals(b)) {
            return true;
        }
        if (a instanceof Row rowA && b instanceof Row rowB) {
            return Arrays.equals(rowA.items, rowB.items);
        }
        if (!(a instanceof Made madeA) || !(b instanceof Made madeB) || others == 5 || madeA.shape != madeB.shape) {
            return false;
        }
        boolean all = madeA.parts.size() == madeB.parts.size();
        for (int p = 0; all && p < madeA.parts.size(); p++) {
            all = alike(madeA.parts.get(p), madeB.parts.get(p), others + 1);
        }
        return all;
    }

    private List<Object> takeParts(List<Part> of, List<Integer> used) throws Failed {
        List<Object> taken = new ArrayList<>();
        for (int p = 0; p < of.size(); p++) {
            int[] by = given.getOrDefault(p, new int[] {0, 0});
            Object thing = of.get(p).sort == 0 ? Integer.valueOf(by[0]) : places.get(by[1]);
            if (thing != null && !isOfClass(thing, of.get(p).sort)) {
                throw new Failed(1, p);
            }
            if (thing != null && !isOwn(thing, of.get(p))) {
                throw new Failed(2, p);
            }
            if (thing instanceof Constant constant) {
                used.add(constant.kind);
            }
            taken.add(thing);
        }
        return taken;
    }

    private static boolean isOfClass(Object thing, int sort) {
        int family = familyOf(thing);
        boolean[] fits = {true, family >= 1 && family <= 3, family == 2 || family == 3, family == 4, family == 5};
        return fits[sort];
    }

    private static boolean isOwn(Object thing, Part part) {
        if (thing instanceof Integer number) {
            return in(number, part.k);
        }
        if (part.sort == 1) {
            return ((Constant) thing).kind == part.k;
        }
        return part.sort != 4 || ((Made) thing).shape == part.k;
    }

    private void look(Check check, List<Object> taken, int at) throws Failed {
        Object a = taken.get(check.a);
        int b = (Integer) taken.get(check.b);
        if (a == null) {
            throw new Failed(3, at);
        }
        if (check.kind == 2 && b >= ((Row) a).items.length || check.kind == 5 && ((Made) a).parts.isEmpty()) {
            throw new Failed(4, at);
        }
        if (check.kind == 5 && !(((Made) a).parts.get(0) instanceof Integer)) {
            throw new Failed(1, at);
        }
        if (check.kind == 1 && b == 0) {
            throw new Failed(5, at);
        }
        if (!holds(check.kind, a, b)) {
            throw new Failed(2, at);
        }
    }

    private boolean holds(int kind, Object a, int b) {
        return switch (kind) {
            case 0 -> (Integer) a <= b;
            case 1 -> (Integer) a % b == 0;
            case 2 -> ((Row) a).items[b] > 0;
            case 3 -> ((Row) a).items.length >= b;
            case 4 -> order(((Constant) a).number, 0) < b;
            default -> ((Made) a).parts.get(0).equals(b);
        };
    }
}
