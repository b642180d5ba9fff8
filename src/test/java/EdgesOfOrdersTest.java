/** Each boundary that the document names for orders and the loom: promises 19 to 28. */
final class EdgesOfOrdersTest {
    private static final int[] FAR = {-1, Integer.MIN_VALUE, Integer.MAX_VALUE};

    public static void main(String[] args) {
        eightOrders();
        oneTo60RowsOfAnOrder();
        endedOrdersCount();
        eachState();
        beginOnlyWhatWaits();
        beginOnlyOnAnEmptyLoom();
        weave1To60();
        weaveWithNoOrder();
        asFarAsRowsOfTheOrder();
        asFarAsCards();
        cardsOfTheRowOnTheCloth();
        rowsOfTheCloth();
        nothingWovenYet();
        hooksFrom15To0();
        lotsOfTheCloth();
        everyLotIsDifferent();
        rightRowsOfAnOrder();
        rightAsToldNow();
        rightInHooksColourAndTension();
        Check.end();
    }

    private static void eightOrders() {
        JacquardDeck x = new JacquardDeck();
        x.addPattern(1);
        for (int order = 0; order < 8; order++) {
            int o = order;
            Check.throwing("not there yet", IndexOutOfBoundsException.class, () -> x.stateOf(o));
            Check.throwing("not there yet", IndexOutOfBoundsException.class, () -> x.rightRows(o));
            Check.throwing("not there yet", IndexOutOfBoundsException.class, () -> x.begin(o));
            Check.throwing("not there yet", IndexOutOfBoundsException.class, () -> x.shared(o, o));
            Check.due("orders are numbered from 0", x.addOrder(0, 1 + o), o);
            Check.due("it waits", x.stateOf(o), 'w');
        }
        Check.throwing("a 9th", IllegalStateException.class, () -> x.addOrder(0, 1));
        Check.throwing("a 9th", IllegalStateException.class, () -> x.addOrder(0, 60));
        Check.due("rightRows of the last", x.rightRows(7), 0);
        Check.due("shared of the last", x.shared(7, 7), 8);
        for (int order : new int[] {8, 9, -1, Integer.MIN_VALUE, Integer.MAX_VALUE}) {
            Check.throwing("stateOf " + order, IndexOutOfBoundsException.class, () -> x.stateOf(order));
            Check.throwing("rightRows " + order, IndexOutOfBoundsException.class, () -> x.rightRows(order));
            Check.throwing("begin " + order, IndexOutOfBoundsException.class, () -> x.begin(order));
        }
        Check.due("begin the last", x.begin(7), true);
    }

    private static void oneTo60RowsOfAnOrder() {
        JacquardDeck x = new JacquardDeck();
        x.addPattern(24);
        Check.throwing("0 rows", IllegalArgumentException.class, () -> x.addOrder(0, 0));
        Check.throwing("61 rows", IllegalArgumentException.class, () -> x.addOrder(0, 61));
        for (int rows : FAR) {
            Check.throwing("rows " + rows, IllegalArgumentException.class, () -> x.addOrder(0, rows));
        }
        Check.throwing("none was added", IndexOutOfBoundsException.class, () -> x.stateOf(0));
        Check.due("1 row, fewer than the pattern", x.addOrder(0, 1), 0);
        Check.due("60 rows", x.addOrder(0, 60), 1);
    }

    private static void endedOrdersCount() {
        JacquardDeck x = new JacquardDeck();
        x.addPattern(1);
        x.compile(0);
        x.addCone(0, 0, 2000);
        for (int order = 0; order < 8; order++) {
            Check.due("addOrder", x.addOrder(0, 1), order);
            x.begin(order);
            x.weave(1);
            x.slip(0, 0);
            Check.due("cut", x.cut(), order % 2 == 0 ? 's' : 'b');
        }
        Check.throwing("8 are there, though none waits", IllegalStateException.class, () -> x.addOrder(0, 1));
        for (int order = 0; order < 8; order++) {
            Check.due("its state stays", x.stateOf(order), order % 2 == 0 ? 's' : 'b');
        }
    }

    private static void eachState() {
        JacquardDeck x = Check.loom(1, 1);
        x.addOrder(0, 1);
        x.addOrder(0, 1);
        x.addCone(0, 0, 100);
        Check.due("on the loom", x.stateOf(0), 'l');
        Check.due("the next waits", x.stateOf(1), 'w');
        x.weave(1);
        Check.due("on the loom till it is cut", x.stateOf(0), 'l');
        x.cut();
        Check.due("sold", x.stateOf(0), 's');
        x.begin(2);
        x.slip(0, 0);
        x.weave(1);
        x.cut();
        Check.due("sold still", x.stateOf(0), 's');
        Check.due("waits still", x.stateOf(1), 'w');
        Check.due("a second", x.stateOf(2), 'b');
    }

    private static void beginOnlyWhatWaits() {
        JacquardDeck x = Check.loom(1, 1);
        x.addOrder(0, 1);
        x.addOrder(0, 1);
        x.addCone(0, 0, 100);
        Check.throwing("on the loom", UnsupportedOperationException.class, () -> x.begin(0));
        x.weave(1);
        x.cut();
        Check.throwing("sold", UnsupportedOperationException.class, () -> x.begin(0));
        x.begin(1);
        x.slip(0, 0);
        x.weave(1);
        x.cut();
        Check.throwing("a second", UnsupportedOperationException.class, () -> x.begin(1));
        Check.throwing("sold", UnsupportedOperationException.class, () -> x.begin(0));
        Check.throwing("no order was put on the loom", IllegalStateException.class, () -> x.weave(1));
        Check.due("waits", x.begin(2), true);
    }

    private static void beginOnlyOnAnEmptyLoom() {
        JacquardDeck x = Check.loom(1, 2);
        x.addOrder(0, 2);
        x.addCone(0, 0, 100);
        Check.throwing("with no cloth", IllegalStateException.class, () -> x.begin(1));
        x.weave(1);
        Check.throwing("with cloth", IllegalStateException.class, () -> x.begin(1));
        x.unweave(0);
        Check.throwing("with the cloth unwoven", IllegalStateException.class, () -> x.begin(1));
        Check.due("it waits still", x.stateOf(1), 'w');
        Check.due("the first is on the loom still", x.stateOf(0), 'l');
        x.weave(2);
        Check.throwing("with all rows", IllegalStateException.class, () -> x.begin(1));
        x.cut();
        Check.due("the loom is empty", x.begin(1), true);
        Check.due("it has no cloth", x.woven(), 0);
    }

    private static void weave1To60() {
        JacquardDeck x = Check.loom(1, 60);
        x.addCone(0, 0, 2000);
        Check.throwing("weave 0", IllegalArgumentException.class, () -> x.weave(0));
        Check.throwing("weave 61", IllegalArgumentException.class, () -> x.weave(61));
        for (int rows : FAR) {
            Check.throwing("weave " + rows, IllegalArgumentException.class, () -> x.weave(rows));
        }
        Check.due("nothing woven", x.woven(), 0);
        Check.due("weave 1", x.weave(1), 1);
        Check.due("woven", x.woven(), 1);
        x.unweave(0);
        Check.due("weave 60", x.weave(60), 60);
        Check.due("woven", x.woven(), 60);
    }

    private static void weaveWithNoOrder() {
        JacquardDeck x = new JacquardDeck();
        x.addPattern(1);
        x.compile(0);
        x.addOrder(0, 1);
        x.addCone(0, 0, 100);
        Check.throwing("it waits", IllegalStateException.class, () -> x.weave(1));
        Check.throwing("it waits", IllegalStateException.class, () -> x.weave(60));
        x.begin(0);
        Check.due("it is on the loom", x.weave(1), 1);
        x.cut();
        Check.throwing("it is sold", IllegalStateException.class, () -> x.weave(1));
    }

    private static void asFarAsRowsOfTheOrder() {
        for (int rows : new int[] {1, 2, 59, 60}) {
            JacquardDeck x = Check.loom(1, rows);
            x.addCone(0, 0, 2000);
            Check.due("all but one", rows == 1 ? 0 : x.weave(rows - 1), rows - 1);
            Check.due("the last one", x.weave(60), 1);
            Check.due("no more", x.weave(60), 0);
            Check.due("no more", x.weave(1), 0);
            Check.due("woven", x.woven(), rows);
            Check.due("entries", x.entries(), rows);
            Check.due("stock", x.stock(0), 2000 - 25 * rows);
        }
    }

    private static void asFarAsCards() {
        JacquardDeck x = new JacquardDeck();
        x.addPattern(4);
        x.addOrder(0, 60);
        x.begin(0);
        x.addCone(0, 0, 2000);
        Check.due("not compiled", x.weave(60), 0);
        x.compile(0);
        x.setRow(0, 3, 0, 0, 5);
        Check.due("row 3 has none", x.weave(60), 3);
        Check.due("nor later", x.weave(60), 0);
        x.compile(0);
        x.setRow(0, 0, 0, 0, 5);
        Check.due("row 0 has none when it comes round", x.weave(60), 1);
        x.setRow(0, 1, 0, 0, 5);
        x.compile(0);
        Check.due("all have", x.weave(56), 56);
        Check.due("stock", x.stock(0), 2000 - 60 * 25);
    }

    private static void cardsOfTheRowOnTheCloth() {
        JacquardDeck x = new JacquardDeck();
        x.addPattern(3);
        x.setRow(0, 0, 1, 0, 9);
        x.setRow(0, 1, 2, 0, 9);
        x.setRow(0, 2, 4, 0, 9);
        x.compile(0);
        x.addOrder(0, 60);
        x.begin(0);
        x.addCone(0, 0, 2000);
        x.weave(5);
        x.unweave(4);
        x.weave(1);
        Check.due("row 4 is woven again by the card of row 1", x.hooksOf(4), 2);
        x.unweave(2);
        x.weave(2);
        Check.due("row 2", x.hooksOf(2), 4);
        Check.due("row 3", x.hooksOf(3), 1);
        Check.due("wear of the card of row 0", x.wear(0), 3);
        Check.due("wear of the card of row 1", x.wear(1), 3);
        Check.due("wear of the card of row 2", x.wear(2), 2);
    }

    private static void rowsOfTheCloth() {
        JacquardDeck x = Check.loomFor(5, 2, 5);
        x.addCone(2, 0, 2000);
        x.weave(60);
        Check.due("the first", x.hooksOf(0), 5);
        Check.due("the last", x.hooksOf(59), 5);
        Check.due("the first", x.colourOf(0), 2);
        Check.due("the last", x.colourOf(59), 2);
        Check.due("the first", x.hookAt(0, 0), 'x');
        Check.due("the last", x.hookAt(59, 0), 'x');
        for (int index : new int[] {60, 61, -1, Integer.MIN_VALUE, Integer.MAX_VALUE}) {
            Check.throwing("hooksOf " + index, IndexOutOfBoundsException.class, () -> x.hooksOf(index));
            Check.throwing("colourOf " + index, IndexOutOfBoundsException.class, () -> x.colourOf(index));
            Check.throwing("hookAt " + index, IndexOutOfBoundsException.class, () -> x.hookAt(index, 0));
        }
        x.unweave(7);
        Check.due("the last that stays", x.hooksOf(6), 5);
        for (int index : new int[] {7, 8, 59}) {
            Check.throwing("hooksOf an unwoven one", IndexOutOfBoundsException.class, () -> x.hooksOf(index));
            Check.throwing("colourOf an unwoven one", IndexOutOfBoundsException.class, () -> x.colourOf(index));
            Check.throwing("hookAt an unwoven one", IndexOutOfBoundsException.class, () -> x.hookAt(index, 0));
        }
    }

    private static void nothingWovenYet() {
        JacquardDeck x = Check.loom(1, 1);
        x.addCone(0, 0, 100);
        noCloth(x);
        x.weave(1);
        Check.due("one row", x.woven(), 1);
        x.cut();
        noCloth(x);
    }

    private static void noCloth(JacquardDeck x) {
        Check.due("no rows", x.woven(), 0);
        Check.due("no lots", x.lots(), 0);
        Check.due("none right", x.rightRows(0), 0);
        Check.due("no entries", x.entries(), 0);
        Check.throwing("hooksOf", IndexOutOfBoundsException.class, () -> x.hooksOf(0));
        Check.throwing("colourOf", IndexOutOfBoundsException.class, () -> x.colourOf(0));
        Check.throwing("hookAt", IndexOutOfBoundsException.class, () -> x.hookAt(0, 0));
    }

    private static void hooksFrom15To0() {
        JacquardDeck x = new JacquardDeck();
        x.addPattern(2);
        x.setRow(0, 0, 1, 0, 5);
        x.setRow(0, 1, 32768, 0, 5);
        x.compile(0);
        x.addOrder(0, 60);
        x.begin(0);
        x.addCone(0, 0, 100);
        x.weave(2);
        for (int hook = 0; hook < 16; hook++) {
            Check.due("of 1, hook " + hook, x.hookAt(0, hook), hook == 0 ? 'x' : '.');
            Check.due("of 32768, hook " + hook, x.hookAt(1, hook), hook == 15 ? 'x' : '.');
        }
        for (int hook : new int[] {16, 17, 31, 32, -1, Integer.MIN_VALUE, Integer.MAX_VALUE}) {
            Check.throwing("hook " + hook, IllegalArgumentException.class, () -> x.hookAt(0, hook));
        }
    }

    private static void lotsOfTheCloth() {
        JacquardDeck x = new JacquardDeck();
        x.addPattern(2);
        x.setRow(0, 1, 0, 1, 5);
        x.compile(0);
        x.addOrder(0, 60);
        x.begin(0);
        x.addCone(0, 8, 25);
        x.addCone(0, 8, 25);
        x.addCone(0, 9, 24);
        x.addCone(0, 8, 25);
        x.addCone(1, 8, 200);
        Check.due("no cloth", x.lots(), 0);
        x.weave(1);
        Check.due("one lot", x.lots(), 1);
        x.weave(1);
        Check.due("the same lot of another colour", x.lots(), 2);
        x.weave(2);
        Check.due("another thread of the same lot", x.lots(), 2);
        x.weave(2);
        Check.due("the next lot, and the first again", x.lots(), 3);
        x.unweave(4);
        Check.due("as unwoven", x.lots(), 2);
        x.unweave(1);
        Check.due("as unwoven", x.lots(), 1);
        x.unweave(0);
        Check.due("none", x.lots(), 0);
    }

    /** Twelve lots of each colour come, so ten looms ask for all hundred. */
    private static void everyLotIsDifferent() {
        for (int from = 0; from < 100; from += 11) {
            JacquardDeck x = Check.loom(1, 12);
            for (int lot = from; lot < from + 12; lot++) {
                x.addCone(0, lot % 100, 25);
            }
            for (int row = 1; row <= 12; row++) {
                x.weave(1);
                Check.due("lots from " + from, x.lots(), row);
            }
        }
        for (int apart : new int[] {1, 8, 16, 32, 50, 63, 64, 65, 98, 99}) {
            JacquardDeck x = Check.loom(1, 12);
            for (int lot : new int[] {0, 99 - apart, apart, 99}) {
                x.addCone(0, lot, 25);
            }
            x.weave(4);
            Check.due("lots so far apart: " + apart, x.lots(), apart == 99 ? 2 : 4);
        }
        for (int lot : new int[] {0, 1, 31, 32, 62, 63, 64, 65, 98, 99}) {
            JacquardDeck x = Check.loom(1, 12);
            x.addCone(0, lot, 25);
            x.addCone(0, lot, 25);
            x.weave(2);
            Check.due("one lot", x.lots(), 1);
        }
    }

    private static void rightRowsOfAnOrder() {
        JacquardDeck x = Check.loom(1, 60);
        for (int rows : new int[] {1, 9, 10, 11, 60}) {
            x.addOrder(0, rows);
        }
        x.addCone(0, 0, 2000);
        for (int order = 0; order < 6; order++) {
            Check.due("no cloth", x.rightRows(order), 0);
        }
        x.weave(10);
        int[] want = {10, 1, 9, 10, 10, 10};
        for (int order = 0; order < 6; order++) {
            Check.due("at most the rows of order " + order, x.rightRows(order), want[order]);
        }
        x.unweave(0);
        x.slip(0, 0);
        x.weave(1);
        x.slip(0, 0);
        x.weave(5);
        for (int order = 0; order < 6; order++) {
            Check.due("the first row is wrong", x.rightRows(order), 0);
        }
    }

    private static void rightAsToldNow() {
        JacquardDeck x = Check.loom(3, 60);
        x.addCone(0, 0, 2000);
        x.weave(9);
        Check.due("all", x.rightRows(0), 9);
        x.setRow(0, 2, 1, 0, 5);
        Check.due("till row 2", x.rightRows(0), 2);
        x.setRow(0, 0, 1, 0, 5);
        Check.due("none", x.rightRows(0), 0);
        x.setRow(0, 0, 0, 0, 5);
        x.setRow(0, 2, 0, 0, 5);
        Check.due("all again, though they have no card now", x.rightRows(0), 9);
    }

    private static void rightInHooksColourAndTension() {
        int[][] others = {{1, 1, 5}, {32768, 1, 5}, {0, 0, 5}, {0, 2, 5}, {0, 3, 5}, {0, 1, 4}, {0, 1, 6}, {0, 1, 1}};
        JacquardDeck x = Check.loomFor(0, 1, 5);
        x.addCone(1, 0, 100);
        x.weave(2);
        for (int[] other : others) {
            x.setRow(0, 0, other[0], other[1], other[2]);
            Check.due("not right", x.rightRows(0), 0);
            Check.due("look", x.look(60), 0);
            x.setRow(0, 0, 0, 1, 5);
            Check.due("right", x.rightRows(0), 2);
            Check.due("look", x.look(60), -1);
        }
    }
}
