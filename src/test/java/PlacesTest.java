/** Promises 13 to 19: what places hold, families, likeness. */
public final class PlacesTest {
    private static final int BAD = -1, NONE = -3;
    private static final int[] WRONG_PLACES = {-1, 10, NONE, Integer.MIN_VALUE, Integer.MAX_VALUE};

    public static void main(String[] args) {
        promise13Hold();
        promise14Row();
        promise15Item();
        promise16Share();
        promise17Family();
        promise18Is();
        promise19Simple();
        promise19Rows();
        promise19Records();
        promise19Depth();
        promise19RowsDeep();
        Due.end();
    }

    private static void promise13Hold() {
        ConstantKinds x = withBodies();
        Due.same("hold", x.hold(0, 0), 0);
        Due.same("hold", x.hold(9, 2), 2);
        Due.same("acts", x.count(1), 2);
        Due.same("started", x.started(0), 0);
        Due.same("started", x.started(2), 1);
        Due.same("not started", x.started(1), NONE);
        for (int place : WRONG_PLACES) {
            Due.same("hold at " + place, x.hold(place, 1), BAD);
        }
        for (int constant : new int[] {-1, 3, NONE, Integer.MIN_VALUE, Integer.MAX_VALUE}) {
            Due.same("hold of constant " + constant, x.hold(0, constant), BAD);
        }
        Due.same("acts", x.count(1), 2);
        Due.same("not started", x.started(1), NONE);
        Due.same("it holds the same", x.family(0), 1);
        Due.same("hold over another", x.hold(0, 1), 1);
        Due.same("it holds the other", x.family(0), 2);
    }

    private static void promise14Row() {
        ConstantKinds x = withBodies();
        for (int n = 0; n <= 12; n++) {
            Due.same("row of " + n, x.row(3, n), 1);
            Due.same("a row", x.family(3), 4);
            for (int i = 0; i < n; i++) {
                Due.same("item " + i + " at first", x.item(3, i, i + 1), 0);
            }
            Due.same("item behind the last", x.item(3, n, 1), BAD);
        }
        for (int n : new int[] {-1, -2, -4, 13, Integer.MIN_VALUE, Integer.MAX_VALUE}) {
            Due.same("row of " + n, x.row(3, n), BAD);
        }
        Due.same("the row is as it was", x.item(3, 11, 0), 12);
        for (int place : WRONG_PLACES) {
            Due.same("row at " + place, x.row(place, 1), BAD);
            Due.same("nothing at " + place, x.row(place, NONE), BAD);
        }
        Due.same("nothing", x.row(3, NONE), 1);
        Due.same("nothing held", x.family(3), 0);
        Due.same("nothing again", x.row(3, NONE), 1);
        Due.same("no act", x.count(1), 0);
    }

    private static void promise15Item() {
        ConstantKinds x = withBodies();
        x.row(0, 12);
        x.row(1, 12);
        Due.same("item", x.item(0, 0, 5), 0);
        Due.same("item", x.item(0, 0, BAD), 5);
        Due.same("an item may be -1", x.item(0, 0, Integer.MIN_VALUE), -1);
        Due.same("item", x.item(0, 0, Integer.MAX_VALUE), Integer.MIN_VALUE);
        Due.same("item", x.item(0, 11, 4), 0);
        Due.same("the other row", x.item(1, 0, 0), 0);
        for (int i : new int[] {-1, 12, NONE, Integer.MIN_VALUE, Integer.MAX_VALUE}) {
            Due.same("item " + i, x.item(0, i, 1), BAD);
        }
        for (int place : WRONG_PLACES) {
            Due.same("item at " + place, x.item(place, 0, 1), BAD);
        }
        x.hold(2, 0);
        x.make(0, 3);
        Due.same("of a constant", x.item(2, 0, 1), BAD);
        Due.same("of a record", x.item(3, 0, 1), BAD);
        Due.same("of nothing", x.item(4, 0, 1), BAD);
        Due.same("the row stayed", x.item(0, 0, 0), Integer.MAX_VALUE);
        Due.same("the row stayed", x.item(0, 11, 0), 4);
    }

    private static void promise16Share() {
        ConstantKinds x = withBodies();
        x.row(0, 2);
        Due.same("share a row", x.share(9, 0), 4);
        x.item(9, 1, 8);
        Due.same("it is the same row", x.item(0, 1, 8), 8);
        x.hold(1, 2);
        Due.same("share a constant", x.share(2, 1), 3);
        x.make(0, 3);
        Due.same("share a record", x.share(4, 3), 5);
        Due.same("share nothing", x.share(4, 5), 0);
        Due.same("the place holds nothing", x.family(4), 0);
        Due.same("the record is still there", x.family(3), 5);
        Due.same("with itself", x.share(0, 0), 4);
        x.row(0, NONE);
        Due.same("the shared row stays", x.item(9, 1, 8), 8);
        for (int place : WRONG_PLACES) {
            Due.same("share to " + place, x.share(place, 1), BAD);
            Due.same("share from " + place, x.share(1, place), BAD);
        }
        Due.same("it holds the same", x.family(1), 3);
        Due.same("sharing is no act", x.count(1), 2);
    }

    private static void promise17Family() {
        ConstantKinds x = allFamilies();
        for (int place = 0; place <= 5; place++) {
            Due.same("family", x.family(place), place);
        }
        for (int place : WRONG_PLACES) {
            Due.same("family at " + place, x.family(place), BAD);
        }
    }

    private static void promise18Is() {
        ConstantKinds x = allFamilies();
        for (int place = 0; place <= 5; place++) {
            for (int family = 1; family <= 5; family++) {
                boolean want = place == family || place == 3 && family == 2;
                Due.same("is(" + place + ", " + family + ")", x.is(place, family), want ? 1 : 0);
            }
            for (int family : new int[] {0, -1, 6, NONE, Integer.MIN_VALUE, Integer.MAX_VALUE}) {
                Due.same("is(" + place + ", " + family + ")", x.is(place, family), BAD);
            }
        }
        for (int place : WRONG_PLACES) {
            Due.same("is at " + place, x.is(place, 1), BAD);
        }
    }

    private static void promise19Simple() {
        ConstantKinds x = allFamilies();
        for (int a = 0; a <= 5; a++) {
            for (int b = 0; b <= 5; b++) {
                Due.same("like(" + a + ", " + b + ")", x.like(a, b), a == b ? 1 : 0);
            }
        }
        Due.same("nothing both", x.like(0, 9), 1);
        x.hold(6, 1);
        Due.same("the same constant", x.like(6, 2), 1);
        x.constant(1, Due.name("b"), 1);
        x.hold(6, 3);
        Due.same("another constant of that body", x.like(6, 2), 0);
        for (int place : WRONG_PLACES) {
            Due.same("like with " + place, x.like(place, 0), BAD);
            Due.same("like with " + place, x.like(0, place), BAD);
        }
    }

    private static void promise19Rows() {
        ConstantKinds x = new ConstantKinds();
        x.row(0, 3);
        x.row(1, 3);
        x.row(2, 4);
        x.row(3, 0);
        x.row(4, 0);
        Due.same("rows of zeroes", x.like(0, 1), 1);
        Due.same("another length", x.like(0, 2), 0);
        Due.same("another length", x.like(2, 0), 0);
        Due.same("no items both", x.like(3, 4), 1);
        Due.same("no items", x.like(3, 0), 0);
        x.item(0, 2, 5);
        Due.same("another last item", x.like(0, 1), 0);
        x.item(1, 2, 5);
        Due.same("the same again", x.like(0, 1), 1);
        x.item(1, 0, 1);
        Due.same("another first item", x.like(0, 1), 0);
    }

    private static void promise19Records() {
        ConstantKinds x = withBodies();
        x.make(0, 0);
        x.make(0, 1);
        x.make(1, 2);
        Due.same("no parts both", x.like(0, 1), 1);
        Due.same("another shape", x.like(0, 2), 0);
        x.part(0, 0, 9);
        x.make(0, 3);
        Due.same("as many parts", x.like(0, 3), 0);
        Due.same("as many parts", x.like(3, 0), 0);
        x.make(0, 4);
        Due.same("numbers alike", x.like(3, 4), 1);
        x.give(0, 1, 0);
        x.make(0, 4);
        Due.same("numbers not alike", x.like(3, 4), 0);
        x.part(2, 3, 0);
        x.part(2, 2, 0);
        x.give(0, 0, 5);
        x.give(1, 0, 6);
        x.make(2, 7);
        x.make(2, 8);
        Due.same("nothing in both", x.like(7, 8), 1);
        x.row(5, 1);
        x.make(2, 8);
        Due.same("nothing in one", x.like(7, 8), 0);
        Due.same("nothing in one", x.like(8, 7), 0);
        x.row(5, 1);
        x.make(2, 7);
        Due.same("rows that are alike", x.like(7, 8), 1);
        x.item(5, 0, 3);
        Due.same("rows that were changed since", x.like(7, 8), 0);
        x.make(2, 8);
        Due.same("the same row", x.like(7, 8), 1);
        x.hold(6, 1);
        x.make(2, 7);
        Due.same("a constant in one", x.like(7, 8), 0);
        x.make(2, 8);
        Due.same("the same constant", x.like(7, 8), 1);
        x.hold(6, 2);
        x.make(2, 8);
        Due.same("another constant", x.like(7, 8), 0);
    }

    /** Two chains of records, link by link alike but apart: told as alike as long as four links hold the last. */
    private static void promise19Depth() {
        for (int links = 0; links <= 8; links++) {
            ConstantKinds x = new ConstantKinds();
            x.part(0, 4, 0);
            chain(x, 0, links);
            chain(x, 1, links);
            Due.same("chains with a record within " + links, x.like(0, 1), links < 5 ? 1 : 0);
            Due.same("a chain with itself", x.like(0, 0), 1);
        }
        ConstantKinds x = new ConstantKinds();
        x.part(0, 4, 0);
        chain(x, 0, 2);
        x.share(1, 0);
        for (int link = 0; link < 5; link++) {
            wrap(x, 0);
            wrap(x, 1);
        }
        Due.same("the record within five others is the same", x.like(0, 1), 1);
        wrap(x, 0);
        wrap(x, 1);
        Due.same("the record within five others is not the same", x.like(0, 1), 0);
    }

    private static void promise19RowsDeep() {
        ConstantKinds x = new ConstantKinds();
        x.part(0, 4, 0);
        x.part(0, 3, 0);
        x.give(1, 0, 8);
        for (int place = 0; place <= 1; place++) {
            x.row(8, 2);
            x.give(0, 0, 9);
            x.make(0, place);
            x.row(8, NONE);
            for (int link = 0; link < 4; link++) {
                wrap(x, place);
            }
        }
        Due.same("rows in the record within four others", x.like(0, 1), 1);
        x.share(2, 0);
        for (int link = 0; link < 4; link++) {
            x.take(2, 0, 2);
        }
        x.take(2, 1, 2);
        Due.same("the row of that record", x.item(2, 1, 6), 0);
        Due.same("rows that are not alike there", x.like(0, 1), 0);
    }

    /** A record that holds nothing, within as many others as told. */
    private static void chain(ConstantKinds x, int place, int links) {
        x.give(0, 0, 9);
        x.make(0, place);
        for (int link = 0; link < links; link++) {
            wrap(x, place);
        }
    }

    private static void wrap(ConstantKinds x, int place) {
        x.give(0, 0, place);
        Due.same("a record around another", x.make(0, place), 0);
    }

    private static ConstantKinds withBodies() {
        ConstantKinds x = new ConstantKinds();
        for (int body = 0; body < 3; body++) {
            x.constant(body, Due.name("a"), body);
        }
        return x;
    }

    /** Each place 0 .. 5 holds a thing of the family of its number. */
    private static ConstantKinds allFamilies() {
        ConstantKinds x = withBodies();
        x.hold(1, 0);
        x.hold(2, 1);
        x.hold(3, 2);
        x.row(4, 0);
        x.make(0, 5);
        return x;
    }
}
