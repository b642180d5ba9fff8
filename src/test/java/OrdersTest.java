/** Promises 19 to 28: orders and the loom. */
final class OrdersTest {
    private static final int[] OUTSIDE = {-1, Integer.MIN_VALUE, Integer.MAX_VALUE, 60};

    public static void main(String[] args) {
        addOrder();
        stateOf();
        begin();
        weave();
        weaveEnds();
        cloth();
        lots();
        rightRows();
        Check.end();
    }

    private static void addOrder() {
        JacquardDeck x = new JacquardDeck();
        x.addPattern(1);
        Check.throwing("addOrder pattern 1", IndexOutOfBoundsException.class, () -> x.addOrder(1, 0));
        Check.throwing("addOrder pattern -1", IndexOutOfBoundsException.class, () -> x.addOrder(-1, 1));
        for (int rows : new int[] {0, 61, -1, Integer.MIN_VALUE, Integer.MAX_VALUE}) {
            Check.throwing("addOrder rows", IllegalArgumentException.class, () -> x.addOrder(0, rows));
        }
        for (int order = 0; order < 8; order++) {
            Check.due("addOrder", x.addOrder(0, order == 0 ? 1 : 60), order);
            Check.due("it waits", x.stateOf(order), 'w');
        }
        Check.throwing("a ninth", IllegalStateException.class, () -> x.addOrder(0, 1));
        Check.throwing("a ninth, wrong rows", IllegalArgumentException.class, () -> x.addOrder(0, 0));
        Check.throwing("a ninth, wrong pattern", IndexOutOfBoundsException.class, () -> x.addOrder(1, 0));
    }

    private static void stateOf() {
        JacquardDeck x = Check.loom(1, 1);
        x.addOrder(0, 1);
        x.addCone(0, 0, 100);
        Check.due("on the loom", x.stateOf(0), 'l');
        Check.due("waits", x.stateOf(1), 'w');
        x.weave(1);
        x.cut();
        Check.due("sold", x.stateOf(0), 's');
        x.begin(1);
        x.slip(0, 0);
        x.weave(1);
        x.cut();
        Check.due("a second", x.stateOf(1), 'b');
        for (int order : new int[] {-1, 2, 8, Integer.MIN_VALUE, Integer.MAX_VALUE}) {
            Check.throwing("stateOf", IndexOutOfBoundsException.class, () -> x.stateOf(order));
        }
    }

    private static void begin() {
        JacquardDeck x = new JacquardDeck();
        x.addPattern(1);
        x.compile(0);
        x.addOrder(0, 1);
        x.addOrder(0, 1);
        x.addCone(0, 0, 100);
        Check.throwing("begin(-1)", IndexOutOfBoundsException.class, () -> x.begin(-1));
        Check.throwing("begin(2)", IndexOutOfBoundsException.class, () -> x.begin(2));
        Check.due("begin", x.begin(1), true);
        Check.due("state", x.stateOf(1), 'l');
        Check.throwing("it is on the loom", UnsupportedOperationException.class, () -> x.begin(1));
        Check.throwing("another is", IllegalStateException.class, () -> x.begin(0));
        Check.due("state as before", x.stateOf(0), 'w');
        x.weave(1);
        x.cut();
        Check.throwing("it is sold", UnsupportedOperationException.class, () -> x.begin(1));
        Check.due("begin the other", x.begin(0), true);
        Check.throwing("sold, and another on the loom", UnsupportedOperationException.class, () -> x.begin(1));
    }

    private static void weave() {
        JacquardDeck x = new JacquardDeck();
        for (int rows : new int[] {0, 61, -1, Integer.MIN_VALUE, Integer.MAX_VALUE}) {
            Check.throwing("weave rows", IllegalArgumentException.class, () -> x.weave(rows));
        }
        Check.throwing("weave with no order", IllegalStateException.class, () -> x.weave(1));
        x.addPattern(3);
        x.setRow(0, 0, 1, 0, 5);
        x.setRow(0, 1, 2, 1, 5);
        x.setRow(0, 2, 3, 2, 5);
        x.compile(0);
        x.addOrder(0, 7);
        x.begin(0);
        x.addCone(0, 0, 2000);
        x.addCone(1, 0, 2000);
        x.addCone(2, 0, 2000);
        Check.due("weave 2", x.weave(2), 2);
        Check.due("as far as rows of the order", x.weave(60), 5);
        Check.due("no more", x.weave(1), 0);
        Check.due("woven", x.woven(), 7);
        for (int row = 0; row < 7; row++) {
            Check.due("hooksOf, gone round", x.hooksOf(row), row % 3 + 1);
            Check.due("colourOf, gone round", x.colourOf(row), row % 3);
        }
        Check.due("wear of card 0", x.wear(0), 3);
        Check.due("wear of card 2", x.wear(2), 2);
        Check.due("entries", x.entries(), 7);
    }

    private static void weaveEnds() {
        JacquardDeck x = new JacquardDeck();
        x.addPattern(2);
        x.setRow(0, 0, 0, 0, 1);
        x.setRow(0, 1, 0, 0, 9);
        x.addOrder(0, 60);
        x.begin(0);
        x.addCone(0, 0, 49);
        Check.due("no cards", x.weave(60), 0);
        x.compile(0);
        x.setRow(0, 1, 0, 0, 9);
        Check.due("no card of the second row", x.weave(60), 1);
        x.compile(0);
        Check.due("a row needs 30 less its tension: 20 are too few for 21", x.weave(60), 0);
        x.setRow(0, 1, 0, 1, 9);
        x.compile(0);
        Check.due("none of the colour", x.weave(60), 0);
        x.addCone(1, 0, 21);
        Check.due("21 are enough", x.weave(60), 1);
        x.addCone(0, 0, 12);
        Check.due("then 20 and 9 of 12 are just enough", x.weave(60), 1);
        Check.due("woven", x.woven(), 3);
    }

    private static void cloth() {
        JacquardDeck x = new JacquardDeck();
        x.addPattern(1);
        x.setRow(0, 0, 0x8421, 3, 5);
        x.compile(0);
        x.addOrder(0, 60);
        x.begin(0);
        x.addCone(3, 0, 2000);
        x.weave(60);
        for (int hook = 0; hook < 16; hook++) {
            boolean isSet = hook == 0 || hook == 5 || hook == 10 || hook == 15;
            Check.due("hookAt " + hook, x.hookAt(0, hook), isSet ? 'x' : '.');
        }
        Check.due("a worn card's row", x.hookAt(10, 10), '.');
        Check.due("hooksOf it", x.hooksOf(10), 0x8021);
        Check.due("colourOf it", x.colourOf(10), 3);
        x.setRow(0, 0, 1, 1, 5);
        Check.due("cloth stays as woven", x.hooksOf(59), 0x8421);
        for (int index : OUTSIDE) {
            Check.throwing("hooksOf", IndexOutOfBoundsException.class, () -> x.hooksOf(index));
            Check.throwing("colourOf", IndexOutOfBoundsException.class, () -> x.colourOf(index));
            Check.throwing("hookAt", IndexOutOfBoundsException.class, () -> x.hookAt(index, 16));
        }
        for (int hook : new int[] {-1, 16, 32, Integer.MIN_VALUE, Integer.MAX_VALUE}) {
            Check.throwing("hookAt", IllegalArgumentException.class, () -> x.hookAt(0, hook));
        }
        x.unweave(1);
        Check.throwing("a row that was unwoven", IndexOutOfBoundsException.class, () -> x.hooksOf(1));
        Check.throwing("a row that was unwoven", IndexOutOfBoundsException.class, () -> x.colourOf(1));
        Check.throwing("a row that was unwoven", IndexOutOfBoundsException.class, () -> x.hookAt(1, 0));
    }

    private static void lots() {
        JacquardDeck x = new JacquardDeck();
        x.addPattern(4);
        for (int row = 0; row < 4; row++) {
            x.setRow(0, row, 0, row, 5);
            for (int lot : new int[] {0, 63, 64, 99, 35, 35}) {
                x.addCone(row, lot, 25);
            }
        }
        x.compile(0);
        x.addOrder(0, 60);
        x.begin(0);
        int[] want = {1, 2, 3, 4, 8, 12, 16, 20, 20};
        int[] rows = {1, 1, 1, 1, 4, 4, 4, 4, 4};
        for (int i = 0; i < want.length; i++) {
            x.weave(rows[i]);
            Check.due("lots", x.lots(), want[i]);
        }
        x.unweave(3);
        Check.due("lots of what is left", x.lots(), 3);
        x.unweave(0);
        Check.due("no cloth, no lots", x.lots(), 0);
    }

    private static void rightRows() {
        JacquardDeck x = Check.loom(2, 60);
        x.addOrder(0, 3);
        x.addPattern(2);
        x.addOrder(1, 60);
        x.addCone(0, 0, 2000);
        Check.due("no cloth", x.rightRows(0), 0);
        x.weave(8);
        Check.due("all right", x.rightRows(0), 8);
        Check.due("at most the rows of the order", x.rightRows(1), 3);
        Check.due("for another pattern", x.rightRows(2), 8);
        x.setRow(1, 1, 0, 0, 6);
        Check.due("as told now: another tension", x.rightRows(2), 1);
        x.setRow(1, 1, 0, 1, 5);
        Check.due("another colour", x.rightRows(2), 1);
        x.setRow(1, 1, 1, 0, 5);
        Check.due("other hooks", x.rightRows(2), 1);
        x.slip(0, 2);
        x.weave(1);
        x.slip(0, 2);
        x.weave(1);
        Check.due("first rows only", x.rightRows(0), 8);
        for (int order : new int[] {-1, 3, 8, Integer.MIN_VALUE, Integer.MAX_VALUE}) {
            Check.throwing("rightRows", IndexOutOfBoundsException.class, () -> x.rightRows(order));
        }
    }
}
