import java.util.ArrayList;
import java.util.List;

/**
 * All that an object tells of itself, in some three hundred calls, so that two objects can be held against one
 * another. It ends the use of the object, as what was GIVEN, the PARTS and the CHECKS show only by making and adding.
 */
final class State {
    private static final int NONE = -3;
    private static final int CONSTANTS = 7, ITEMS = 3;

    private State() {
    }

    static List<Integer> of(ConstantKinds x) {
        List<Integer> told = new ArrayList<>();
        counts(x, told);
        builds(x, told);
        constants(x, told);
        places(x, told);
        shapes(x, told);
        return told;
    }

    private static void counts(ConstantKinds x, List<Integer> told) {
        for (int i = 0; i <= 5; i++) {
            told.add(x.count(i));
            told.add(x.started(i));
        }
        told.add(x.cause(0));
        told.add(x.cause(1));
    }

    private static void builds(ConstantKinds x, List<Integer> told) {
        for (int kind = 0; kind <= 5; kind++) {
            for (int build = 0; build <= 2; build++) {
                told.add(x.kind(kind, build, NONE));
                told.add(x.table(kind, build));
            }
        }
    }

    private static void constants(ConstantKinds x, List<Integer> told) {
        for (int constant = 0; constant < CONSTANTS; constant++) {
            for (int what = 0; what <= 3; what++) {
                told.add(x.about(constant, what));
            }
            for (int build = 0; build <= 2; build++) {
                told.add(x.order(constant, build));
            }
        }
    }

    private static void places(ConstantKinds x, List<Integer> told) {
        for (int place = 0; place <= 9; place++) {
            int family = x.family(place);
            told.add(family);
            told.add(x.like(place, (place + 1) % 10));
            told.add(x.like(place, (place + 3) % 10));
            if (family == 4) {
                items(x, place, told);
            }
            if (family == 5) {
                parts(x, place, told);
            }
        }
    }

    /** An ITEM is told only as it becomes another, so each is put back. */
    private static void items(ConstantKinds x, int place, List<Integer> told) {
        for (int i = 0; i < ITEMS; i++) {
            int item = x.item(place, i, 0);
            x.item(place, i, item);
            told.add(item);
        }
    }

    private static void parts(ConstantKinds x, int place, List<Integer> told) {
        told.add(x.told(place, NONE));
        for (int p = 0; p <= 4; p++) {
            told.add(x.told(place, p));
        }
    }

    private static void shapes(ConstantKinds x, List<Integer> told) {
        for (int shape = 0; shape <= 5; shape++) {
            told.add(x.make(shape, 9));
            told.add(x.cause(1));
            parts(x, 9, told);
        }
        for (int shape = 0; shape <= 5; shape++) {
            int part = x.part(shape, 0, 0);
            told.add(part);
            told.add(x.check(shape, 0, Math.max(part, 0), Math.max(part, 0)));
        }
    }
}
