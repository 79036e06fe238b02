/**
 * Kinds of constants with builds, tables of weights and draws; places that hold things;
 * records made of parts with checks; and which act started a kind.
 */
public final class ConstantKinds {
    public static final int BAD = -1, FULL = -2, NONE = -3;

    private static final int KINDS = 6, BUILDS = 3, MOST_CONSTANTS = 60;
    private static final int MOST_LETTERS = 8, MOST_WEIGHT = 1000;
    private static final int PLAIN = 0, TWICE = 1, LESS = 2;
    private static final int WHOLE = 0, EMPTY = 1, LACKING = -10;

    private static final int PLACES = 10, MOST_ITEMS = 12;
    private static final int NO_FAMILY = 0, PLAIN_FAMILY = 1, TWICE_FAMILY = 2, LESS_FAMILY = 3,
            ROW_FAMILY = 4, RECORD_FAMILY = 5;

    private static final int SHAPES = 6, MOST_PARTS = 5, MOST_CHECKS = 4, MOST_NUMBER = 1000;
    private static final int NUMBER_SORT = 0, CONSTANT_SORT = 1, TWICE_SORT = 2, ROW_SORT = 3,
            RECORD_SORT = 4;
    private static final int AT_MOST = 0, DIVIDES = 1, ITEM_ABOVE = 2, ITEMS_ENOUGH = 3,
            ORDER_BELOW = 4, FIRST_IS = 5;
    private static final int FINE = 0, CAST = 1, OWN = 2, NULL = 3, INDEX = 4, ZERO = 5;
    private static final int AT_CHECK = 10, THING_TOLD = -10, DEEPEST_ALIKE = 5;

    private final Constant[] constants = new Constant[MOST_CONSTANTS];
    private int constantCount = 0;
    private final Build[] builds = new Build[KINDS * BUILDS];
    private final int[] startedBy = new int[KINDS];
    private int acts = 0;
    private int draws = 0;

    private final Thing[] places = new Thing[PLACES];
    private final Shape[] shapes = new Shape[SHAPES];
    private final int[] givenNumbers = new int[MOST_PARTS];
    private final int[] givenPlaces = new int[MOST_PARTS];
    private int recordCount = 0;
    private int failure = FINE;
    private int failedAt = NONE;

    public ConstantKinds() {
        for (int i = 0; i < KINDS * BUILDS; i++) {
            builds[i] = new Build();
        }
        for (int i = 0; i < KINDS; i++) {
            startedBy[i] = NONE;
        }
        for (int i = 0; i < SHAPES; i++) {
            shapes[i] = new Shape(i);
        }
    }

    // ---- constants

    public int constant(int kind, long name, int body) {
        Build all = buildAt(kind, 0);
        if (all == null || !isName(name) || all.bearing(name) != null || !isIn(body, PLAIN, LESS)) {
            return BAD;
        }
        if (constantCount >= MOST_CONSTANTS) {
            return FULL;
        }
        Constant added = newConstant(body, new Label(constantCount, kind, name, all.size));
        all.append(added);
        constants[constantCount] = added;
        constantCount++;
        return added.label.number;
    }

    public int arrange(int constant, int build) {
        Constant added = constantAt(constant);
        if (added == null || build == 0) {
            return BAD;
        }
        Build told = buildAt(added.label.kind, build);
        if (told == null || told.orderOf(added) != NONE) {
            return BAD;
        }
        return told.append(added);
    }

    public int shuffle(int kind, int build, long seed) {
        Build mixed = buildAt(kind, build);
        if (mixed == null || build == 0) {
            return BAD;
        }
        for (int i = mixed.size - 1; i >= 1; i--) {
            mixed.swap(i, unsignedRemainder(scramble(seed, i), i + 1));
        }
        return mixed.size;
    }

    public int kind(int kind, int build, int i) {
        Build asked = buildAt(kind, build);
        if (asked == null) {
            return BAD;
        }
        if (i == NONE) {
            return asked.size;
        }
        Constant found = asked.at(i);
        return found == null ? BAD : found.label.number;
    }

    public int named(int kind, long name) {
        Build all = buildAt(kind, 0);
        if (all == null) {
            return BAD;
        }
        Constant found = all.bearing(name);
        return found == null ? NONE : found.label.number;
    }

    public int order(int constant, int build) {
        Constant asked = constantAt(constant);
        if (asked == null) {
            return BAD;
        }
        Build line = buildAt(asked.label.kind, build);
        return line == null ? BAD : line.orderOf(asked);
    }

    public int about(int constant, int what) {
        Constant asked = constantAt(constant);
        if (asked == null) {
            return BAD;
        }
        switch (what) {
            case 0: return asked.label.kind;
            case 1: return asked.bodyNumber();
            case 2: return asked.weight;
            case 3: return asked.drawn;
            default: return BAD;
        }
    }

    public int worth(int constant, int v) {
        Constant used = constantAt(constant);
        if (used == null) {
            return BAD;
        }
        use(used);
        acts++;
        return used.worthFor(v);
    }

    // ---- tables, draws

    public int weigh(int constant, int w) {
        Constant weighed = constantAt(constant);
        if (weighed == null || !isIn(w, 0, MOST_WEIGHT)) {
            return BAD;
        }
        int before = weighed.weight;
        weighed.weight = w;
        return before;
    }

    public int table(int kind, int build) {
        Build asked = buildAt(kind, build);
        if (asked == null) {
            return BAD;
        }
        if (asked.size == 0) {
            return EMPTY;
        }
        Constant lacked = asked.firstWithoutWeight();
        return lacked == null ? WHOLE : LACKING - lacked.label.number;
    }

    public int draw(int kind, int build, long seed, int n) {
        Build asked = buildAt(kind, build);
        if (asked == null || n < 0) {
            return BAD;
        }
        if (!asked.isWhole()) {
            return NONE;
        }
        Constant drawn = asked.reaching(unsignedRemainder(scramble(seed, n), asked.weightSum()));
        if (drawn == null) {
            return NONE;
        }
        use(drawn);
        acts++;
        draws++;
        drawn.drawn++;
        return drawn.label.number;
    }

    // ---- places

    public int hold(int place, int constant) {
        Constant held = constantAt(constant);
        if (!isPlace(place) || held == null) {
            return BAD;
        }
        use(held);
        acts++;
        places[place] = held;
        return held.label.kind;
    }

    public int row(int place, int n) {
        if (!isPlace(place) || (n != NONE && !isIn(n, 0, MOST_ITEMS))) {
            return BAD;
        }
        places[place] = n == NONE ? null : new Row(n);
        return 1;
    }

    public int item(int place, int i, int v) {
        if (thingAt(place) instanceof Row held && held.has(i)) {
            int before = held.items[i];
            held.items[i] = v;
            return before;
        }
        return BAD;
    }

    public int share(int place, int from) {
        if (!isPlace(place) || !isPlace(from)) {
            return BAD;
        }
        places[place] = places[from];
        return familyOf(places[place]);
    }

    public int family(int place) {
        return isPlace(place) ? familyOf(places[place]) : BAD;
    }

    public int is(int place, int family) {
        if (!isPlace(place) || !isIn(family, PLAIN_FAMILY, RECORD_FAMILY)) {
            return BAD;
        }
        return isOfFamily(places[place], family) ? 1 : 0;
    }

    public int like(int a, int b) {
        if (!isPlace(a) || !isPlace(b)) {
            return BAD;
        }
        return areAlike(places[a], places[b], 0) ? 1 : 0;
    }

    // ---- records

    public int part(int shape, int sort, int k) {
        Shape told = shapeAt(shape);
        if (told == null || !isPartAllowed(sort, k)) {
            return BAD;
        }
        return told.addPart(sort, k);
    }

    public int check(int shape, int kind, int a, int b) {
        Shape told = shapeAt(shape);
        if (told == null || !told.hasPart(a) || !told.hasPart(b)) {
            return BAD;
        }
        if (told.sorts[b] != NUMBER_SORT || !isCheckOver(kind, told.sorts[a])) {
            return BAD;
        }
        return told.addCheck(kind, a, b);
    }

    public int give(int p, int v, int place) {
        if (!isIn(p, 0, MOST_PARTS - 1) || !isPlace(place)) {
            return BAD;
        }
        givenNumbers[p] = v;
        givenPlaces[p] = place;
        return 1;
    }

    public int make(int shape, int place) {
        Shape told = shapeAt(shape);
        if (told == null || !isPlace(place)) {
            return BAD;
        }
        Made made = new Made(told);
        failedAt = NONE;
        failure = fillParts(made);
        if (failure == FINE) {
            failure = runChecks(made);
        }
        if (failure == FINE) {
            places[place] = made;
            recordCount++;
        }
        acts++;
        return failure;
    }

    public int cause(int what) {
        switch (what) {
            case 0: return failure;
            case 1: return failedAt;
            default: return BAD;
        }
    }

    public int told(int place, int p) {
        if (thingAt(place) instanceof Made held) {
            if (p == NONE) {
                return held.shape.number;
            }
            if (held.has(p)) {
                return held.isNumber(p) ? held.numbers[p] : THING_TOLD + familyOf(held.things[p]);
            }
        }
        return BAD;
    }

    public int take(int place, int p, int to) {
        if (isPlace(to) && thingAt(place) instanceof Made held && held.has(p) && !held.isNumber(p)) {
            places[to] = held.things[p];
            return familyOf(places[to]);
        }
        return BAD;
    }

    public int started(int kind) {
        return isIn(kind, 0, KINDS - 1) ? startedBy[kind] : BAD;
    }

    public int count(int what) {
        switch (what) {
            case 0: return constantCount;
            case 1: return acts;
            case 2: return draws;
            case 3: return recordCount;
            case 4: return placesInUse();
            case 5: return kindsStarted();
            default: return BAD;
        }
    }

    // ---- what the calls ask for, null where there is no such thing

    private Constant constantAt(int number) {
        return isIn(number, 0, constantCount - 1) ? constants[number] : null;
    }

    private Build buildAt(int kind, int build) {
        if (!isIn(kind, 0, KINDS - 1) || !isIn(build, 0, BUILDS - 1)) {
            return null;
        }
        return builds[kind * BUILDS + build];
    }

    private Thing thingAt(int place) {
        return isPlace(place) ? places[place] : null;
    }

    private Shape shapeAt(int number) {
        return isIn(number, 0, SHAPES - 1) ? shapes[number] : null;
    }

    private static boolean isPlace(int place) {
        return isIn(place, 0, PLACES - 1);
    }

    private static boolean isIn(int number, int least, int most) {
        return number >= least && number <= most;
    }

    // ---- names, draws, acts

    private static boolean isName(long name) {
        boolean ended = false;
        for (int i = 0; i < MOST_LETTERS; i++) {
            int letter = (int) (name >>> (8 * i)) & 0xFF;
            if (letter == 0) {
                ended = true;
            } else if (ended || !isIn(letter, 'a', 'z')) {
                return false;
            }
        }
        return name != 0;
    }

    private static Constant newConstant(int body, Label label) {
        switch (body) {
            case TWICE: return new Twice(label);
            case LESS: return new Less(label);
            default: return new Plain(label);
        }
    }

    /** A stream may be the greatest int, so 1 is added to it as a long. */
    private static long scramble(long seed, int stream) {
        long z = seed + (stream + 1L) * 0x9E3779B97F4A7C15L;
        z = (z ^ (z >>> 30)) * 0xBF58476D1CE4E5B9L;
        z = (z ^ (z >>> 27)) * 0x94D049BB133111EBL;
        return z ^ (z >>> 31);
    }

    /** Half of z has no sign bit, so that Java's % is right for it; the lowest bit comes back after. */
    private static int unsignedRemainder(long z, int divisor) {
        if (divisor <= 0) {
            return 0;
        }
        long half = (z >>> 1) % divisor;
        return (int) ((2 * half + (z & 1)) % divisor);
    }

    /** Called ahead of counting the act, so that the act's number is the count so far. */
    private void use(Constant used) {
        if (startedBy[used.label.kind] == NONE) {
            startedBy[used.label.kind] = acts;
        }
    }

    private int placesInUse() {
        int used = 0;
        for (int i = 0; i < PLACES; i++) {
            if (places[i] != null) {
                used++;
            }
        }
        return used;
    }

    private int kindsStarted() {
        int begun = 0;
        for (int i = 0; i < KINDS; i++) {
            if (startedBy[i] != NONE) {
                begun++;
            }
        }
        return begun;
    }

    // ---- families, likeness

    private static int familyOf(Thing thing) {
        return thing == null ? NO_FAMILY : thing.familyNumber();
    }

    private static boolean isOfFamily(Thing thing, int family) {
        switch (family) {
            case PLAIN_FAMILY: return thing instanceof Plain;
            case TWICE_FAMILY: return thing instanceof Twice;
            case LESS_FAMILY: return thing instanceof Less;
            case ROW_FAMILY: return thing instanceof Row;
            default: return thing instanceof Made;
        }
    }

    private static boolean areAlike(Thing a, Thing b, int within) {
        if (a == b) {
            return true;
        }
        if (a instanceof Row rowA && b instanceof Row rowB) {
            return haveSameItems(rowA, rowB);
        }
        if (a instanceof Made madeA && b instanceof Made madeB) {
            return within < DEEPEST_ALIKE && haveLikeParts(madeA, madeB, within);
        }
        return false;
    }

    private static boolean haveSameItems(Row a, Row b) {
        if (a.items.length != b.items.length) {
            return false;
        }
        for (int i = 0; i < a.items.length; i++) {
            if (a.items[i] != b.items[i]) {
                return false;
            }
        }
        return true;
    }

    private static boolean haveLikeParts(Made a, Made b, int within) {
        if (a.shape != b.shape || a.size != b.size) {
            return false;
        }
        for (int p = 0; p < a.size; p++) {
            if (a.numbers[p] != b.numbers[p] || !areAlike(a.things[p], b.things[p], within + 1)) {
                return false;
            }
        }
        return true;
    }

    // ---- parts, checks, making

    private static boolean isPartAllowed(int sort, int k) {
        switch (sort) {
            case NUMBER_SORT: return isIn(k, 0, MOST_NUMBER);
            case CONSTANT_SORT: return isIn(k, 0, KINDS - 1);
            case RECORD_SORT: return isIn(k, 0, SHAPES - 1);
            default: return sort == TWICE_SORT || sort == ROW_SORT;
        }
    }

    private static boolean isCheckOver(int kind, int sort) {
        switch (kind) {
            case AT_MOST:
            case DIVIDES: return sort == NUMBER_SORT;
            case ITEM_ABOVE:
            case ITEMS_ENOUGH: return sort == ROW_SORT;
            case ORDER_BELOW: return sort == CONSTANT_SORT || sort == TWICE_SORT;
            case FIRST_IS: return sort == RECORD_SORT;
            default: return false;
        }
    }

    private int fillParts(Made made) {
        for (int p = 0; p < made.size; p++) {
            int why = made.isNumber(p) ? fillNumber(made, p) : fillThing(made, p);
            if (why != FINE) {
                failedAt = p;
                return why;
            }
        }
        return FINE;
    }

    private int fillNumber(Made made, int p) {
        if (!isIn(givenNumbers[p], 0, made.shape.limits[p])) {
            return OWN;
        }
        made.numbers[p] = givenNumbers[p];
        return FINE;
    }

    private int fillThing(Made made, int p) {
        Thing given = thingAt(givenPlaces[p]);
        int sort = made.shape.sorts[p];
        if (given != null && !isOfSort(given, sort)) {
            return CAST;
        }
        if (isForeign(given, sort, made.shape.limits[p])) {
            return OWN;
        }
        if (given instanceof Constant taken) {
            use(taken);
        }
        made.things[p] = given;
        return FINE;
    }

    private static boolean isOfSort(Thing thing, int sort) {
        switch (sort) {
            case CONSTANT_SORT: return thing instanceof Constant;
            case TWICE_SORT: return thing instanceof Twice;
            case ROW_SORT: return thing instanceof Row;
            default: return thing instanceof Made;
        }
    }

    private static boolean isForeign(Thing thing, int sort, int k) {
        if (sort == CONSTANT_SORT && thing instanceof Constant given) {
            return given.label.kind != k;
        }
        if (sort == RECORD_SORT && thing instanceof Made given) {
            return given.shape.number != k;
        }
        return false;
    }

    private int runChecks(Made made) {
        for (int c = 0; c < made.shape.checkCount; c++) {
            int why = made.shape.checks[c].failureOf(made);
            if (why != FINE) {
                failedAt = AT_CHECK + c;
                return why;
            }
        }
        return FINE;
    }

    // ---- things

    private abstract static class Thing {
        abstract int familyNumber();
    }

    /** What a CONSTANT never changes; its ORDER in BUILD 0 is here, as that row only grows behind it. */
    private static final class Label {
        final int number;
        final int kind;
        final long name;
        final int firstOrder;

        Label(int number, int kind, long name, int firstOrder) {
            this.number = number;
            this.kind = kind;
            this.name = name;
            this.firstOrder = firstOrder;
        }
    }

    private abstract static class Constant extends Thing {
        final Label label;
        int weight = 0;
        int drawn = 0;

        Constant(Label label) {
            this.label = label;
        }

        abstract int bodyNumber();

        abstract int worthFor(int v);
    }

    private static final class Plain extends Constant {
        Plain(Label label) {
            super(label);
        }

        int familyNumber() {
            return PLAIN_FAMILY;
        }

        int bodyNumber() {
            return PLAIN;
        }

        int worthFor(int v) {
            return v + label.firstOrder;
        }
    }

    private static class Twice extends Constant {
        Twice(Label label) {
            super(label);
        }

        int familyNumber() {
            return TWICE_FAMILY;
        }

        int bodyNumber() {
            return TWICE;
        }

        int worthFor(int v) {
            return 2 * (v + label.firstOrder);
        }
    }

    private static final class Less extends Twice {
        Less(Label label) {
            super(label);
        }

        int familyNumber() {
            return LESS_FAMILY;
        }

        int bodyNumber() {
            return LESS;
        }

        int worthFor(int v) {
            return super.worthFor(v) - 3;
        }
    }

    private static final class Row extends Thing {
        final int[] items;

        /** A wrong length makes a ROW without ITEMS, so that no caller can make the machine throw. */
        Row(int length) {
            items = new int[isIn(length, 0, MOST_ITEMS) ? length : 0];
        }

        boolean has(int i) {
            return isIn(i, 0, items.length - 1);
        }

        int familyNumber() {
            return ROW_FAMILY;
        }
    }

    /** A RECORD; its size is its own, as its SHAPE may get more PARTS later. */
    private static final class Made extends Thing {
        final Shape shape;
        final int size;
        final int[] numbers;
        final Thing[] things;

        Made(Shape shape) {
            this.shape = shape;
            size = shape.partCount;
            numbers = new int[size];
            things = new Thing[size];
        }

        boolean has(int p) {
            return isIn(p, 0, size - 1);
        }

        boolean isNumber(int p) {
            return has(p) && shape.sorts[p] == NUMBER_SORT;
        }

        int familyNumber() {
            return RECORD_FAMILY;
        }
    }

    // ---- builds, shapes, checks

    private static final class Build {
        private final Constant[] line = new Constant[MOST_CONSTANTS];
        int size = 0;

        Constant at(int i) {
            return isIn(i, 0, size - 1) ? line[i] : null;
        }

        int orderOf(Constant wanted) {
            for (int i = 0; i < size; i++) {
                if (line[i] == wanted) {
                    return i;
                }
            }
            return NONE;
        }

        Constant bearing(long name) {
            for (int i = 0; i < size; i++) {
                if (line[i].label.name == name) {
                    return line[i];
                }
            }
            return null;
        }

        /** There is room for every CONSTANT that can be, and each comes once, so FULL is never told. */
        int append(Constant added) {
            if (size >= MOST_CONSTANTS) {
                return FULL;
            }
            line[size] = added;
            size++;
            return size - 1;
        }

        void swap(int i, int j) {
            if (isIn(i, 0, size - 1) && isIn(j, 0, size - 1)) {
                Constant kept = line[i];
                line[i] = line[j];
                line[j] = kept;
            }
        }

        Constant firstWithoutWeight() {
            for (int i = 0; i < size; i++) {
                if (line[i].weight <= 0) {
                    return line[i];
                }
            }
            return null;
        }

        boolean isWhole() {
            return size > 0 && firstWithoutWeight() == null;
        }

        int weightSum() {
            int sum = 0;
            for (int i = 0; i < size; i++) {
                sum += line[i].weight;
            }
            return sum;
        }

        Constant reaching(int mark) {
            int sum = 0;
            for (int i = 0; i < size; i++) {
                sum += line[i].weight;
                if (sum > mark) {
                    return line[i];
                }
            }
            return null;
        }
    }

    private static final class Shape {
        final int number;
        final int[] sorts = new int[MOST_PARTS];
        final int[] limits = new int[MOST_PARTS];
        int partCount = 0;
        final Check[] checks = new Check[MOST_CHECKS];
        int checkCount = 0;

        Shape(int number) {
            this.number = number;
        }

        boolean hasPart(int p) {
            return isIn(p, 0, partCount - 1);
        }

        int addPart(int sort, int k) {
            if (partCount >= MOST_PARTS) {
                return FULL;
            }
            sorts[partCount] = sort;
            limits[partCount] = k;
            partCount++;
            return partCount - 1;
        }

        int addCheck(int kind, int a, int b) {
            if (checkCount >= MOST_CHECKS) {
                return FULL;
            }
            checks[checkCount] = new Check(kind, a, b);
            checkCount++;
            return checkCount - 1;
        }
    }

    /** Made only for PARTS that the SHAPE has, so every RECORD made after it has them too. */
    private static final class Check {
        private final int kind;
        private final int a;
        private final int b;

        Check(int kind, int a, int b) {
            this.kind = kind;
            this.a = a;
            this.b = b;
        }

        int failureOf(Made made) {
            if (!made.has(a) || !made.has(b)) {
                return INDEX;
            }
            int number = made.numbers[b];
            switch (kind) {
                case AT_MOST: return ownUnless(made.numbers[a] <= number);
                case DIVIDES: return divisionFailure(made.numbers[a], number);
                case ITEM_ABOVE: return itemFailure(made.things[a], number);
                case ITEMS_ENOUGH: return lengthFailure(made.things[a], number);
                case ORDER_BELOW: return orderFailure(made.things[a], number);
                default: return firstFailure(made.things[a], number);
            }
        }

        private static int ownUnless(boolean holds) {
            return holds ? FINE : OWN;
        }

        private static int divisionFailure(int dividend, int divisor) {
            return divisor == 0 ? ZERO : ownUnless(dividend % divisor == 0);
        }

        private static int itemFailure(Thing thing, int i) {
            if (thing instanceof Row asked) {
                return asked.has(i) ? ownUnless(asked.items[i] > 0) : INDEX;
            }
            return NULL;
        }

        private static int lengthFailure(Thing thing, int least) {
            return thing instanceof Row asked ? ownUnless(asked.items.length >= least) : NULL;
        }

        private static int orderFailure(Thing thing, int bound) {
            return thing instanceof Constant asked ? ownUnless(asked.label.firstOrder < bound) : NULL;
        }

        private static int firstFailure(Thing thing, int number) {
            if (thing instanceof Made asked) {
                if (!asked.has(0)) {
                    return INDEX;
                }
                return asked.isNumber(0) ? ownUnless(asked.numbers[0] == number) : CAST;
            }
            return NULL;
        }
    }
}
