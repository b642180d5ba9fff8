import java.util.NoSuchElementException;

/** If several exceptions apply, the one that the document lists first is thrown. */
final class WhichExceptionTest {
    private static final int[] OUTSIDE = {-1, Integer.MIN_VALUE, Integer.MAX_VALUE};

    public static void main(String[] args) {
        addPattern();
        setRow();
        slip();
        addCone();
        threads();
        addOrder();
        begin();
        weaveAndLook();
        hookAt();
        cut();
        type();
        rightShare();
        Check.end();
    }

    private static void addPattern() {
        JacquardDeck x = new JacquardDeck();
        for (int pattern = 0; pattern < 6; pattern++) {
            x.addPattern(1);
        }
        for (int rows : new int[] {0, 25, -1, Integer.MIN_VALUE, Integer.MAX_VALUE}) {
            Check.throwing("6 are there, and rows out of range", IllegalArgumentException.class,
                    () -> x.addPattern(rows));
        }
        Check.throwing("6 are there", IllegalStateException.class, () -> x.addPattern(1));
    }

    private static void setRow() {
        JacquardDeck x = new JacquardDeck();
        Check.throwing("no pattern, wrong hooks", IndexOutOfBoundsException.class, () -> x.setRow(0, 0, -1, 0, 5));
        x.addPattern(2);
        for (int row : new int[] {2, -1, Integer.MIN_VALUE, Integer.MAX_VALUE}) {
            Check.throwing("no row, wrong hooks", IndexOutOfBoundsException.class,
                    () -> x.setRow(0, row, 65536, 0, 5));
            Check.throwing("no row, wrong colour", IndexOutOfBoundsException.class,
                    () -> x.setRow(0, row, 0, 4, 5));
            Check.throwing("no row, wrong tension", IndexOutOfBoundsException.class,
                    () -> x.setRow(0, row, 0, 0, 0));
        }
        for (int pattern : OUTSIDE) {
            Check.throwing("no pattern, wrong hooks", IndexOutOfBoundsException.class,
                    () -> x.setRow(pattern, 0, 65536, 0, 5));
            Check.throwing("no pattern, wrong tension", IndexOutOfBoundsException.class,
                    () -> x.setRow(pattern, 0, 0, 0, 10));
            Check.throwing("no pattern, all wrong", IndexOutOfBoundsException.class,
                    () -> x.setRow(pattern, pattern, pattern, pattern, pattern));
        }
    }

    private static void slip() {
        JacquardDeck x = new JacquardDeck();
        Check.throwing("no card, no hook", IndexOutOfBoundsException.class, () -> x.slip(0, 16));
        x.addPattern(1);
        x.compile(0);
        for (int card : new int[] {1, 100, -1, Integer.MIN_VALUE, Integer.MAX_VALUE}) {
            Check.throwing("no card, no hook", IndexOutOfBoundsException.class, () -> x.slip(card, 16));
            Check.throwing("no card, no hook", IndexOutOfBoundsException.class, () -> x.slip(card, -1));
        }
        Check.throwing("no hook", IllegalArgumentException.class, () -> x.slip(0, 16));
    }

    private static void addCone() {
        JacquardDeck x = new JacquardDeck();
        for (int cone = 0; cone < 12; cone++) {
            x.addCone(1, 0, 1);
        }
        Check.throwing("12 came, and a wrong lot", IllegalArgumentException.class, () -> x.addCone(1, 100, 1));
        Check.throwing("12 came, and a wrong lot", IllegalArgumentException.class, () -> x.addCone(1, -1, 1));
        Check.throwing("12 came, and a wrong length", IllegalArgumentException.class, () -> x.addCone(1, 0, 0));
        Check.throwing("12 came, and a wrong length", IllegalArgumentException.class, () -> x.addCone(1, 0, 2001));
        Check.throwing("12 came", IllegalStateException.class, () -> x.addCone(1, 0, 1));
    }

    private static void threads() {
        JacquardDeck x = new JacquardDeck();
        for (int colour : new int[] {4, -1, Integer.MIN_VALUE, Integer.MAX_VALUE}) {
            for (int index : new int[] {0, 1, -1, Integer.MIN_VALUE, Integer.MAX_VALUE}) {
                Check.throwing("no colour, no thread", IllegalArgumentException.class,
                        () -> x.wearOfThread(colour, index));
                Check.throwing("no colour, no thread", IllegalArgumentException.class,
                        () -> x.lotOfThread(colour, index));
            }
        }
        Check.throwing("no thread", IndexOutOfBoundsException.class, () -> x.wearOfThread(3, 0));
        Check.throwing("no thread", IndexOutOfBoundsException.class, () -> x.lotOfThread(3, 0));
    }

    private static void addOrder() {
        JacquardDeck x = new JacquardDeck();
        Check.throwing("no pattern, wrong rows", IndexOutOfBoundsException.class, () -> x.addOrder(0, 0));
        Check.throwing("no pattern, wrong rows", IndexOutOfBoundsException.class, () -> x.addOrder(0, 61));
        x.addPattern(1);
        for (int order = 0; order < 8; order++) {
            x.addOrder(0, 1);
        }
        Check.throwing("no pattern, and 8", IndexOutOfBoundsException.class, () -> x.addOrder(1, 1));
        Check.throwing("no pattern, wrong rows, and 8", IndexOutOfBoundsException.class, () -> x.addOrder(-1, 0));
        Check.throwing("wrong rows, and 8", IllegalArgumentException.class, () -> x.addOrder(0, 0));
        Check.throwing("wrong rows, and 8", IllegalArgumentException.class, () -> x.addOrder(0, 61));
        Check.throwing("8", IllegalStateException.class, () -> x.addOrder(0, 60));
    }

    private static void begin() {
        JacquardDeck x = Check.loom(1, 1);
        x.addOrder(0, 1);
        x.addOrder(0, 1);
        x.addCone(0, 0, 100);
        Check.throwing("no order, one on the loom", IndexOutOfBoundsException.class, () -> x.begin(3));
        Check.throwing("no order, one on the loom", IndexOutOfBoundsException.class, () -> x.begin(-1));
        Check.throwing("itself on the loom", UnsupportedOperationException.class, () -> x.begin(0));
        Check.throwing("one on the loom", IllegalStateException.class, () -> x.begin(1));
        x.weave(1);
        x.cut();
        x.begin(1);
        Check.throwing("sold, one on the loom", UnsupportedOperationException.class, () -> x.begin(0));
        x.slip(0, 0);
        x.weave(1);
        x.cut();
        x.begin(2);
        Check.throwing("a second, one on the loom", UnsupportedOperationException.class, () -> x.begin(1));
    }

    private static void weaveAndLook() {
        JacquardDeck x = new JacquardDeck();
        for (int rows : new int[] {0, 61, -1, Integer.MIN_VALUE, Integer.MAX_VALUE}) {
            Check.throwing("weave, wrong rows, no order", IllegalArgumentException.class, () -> x.weave(rows));
            Check.throwing("look, wrong rows, no order", IllegalArgumentException.class, () -> x.look(rows));
        }
        Check.throwing("weave, no order", IllegalStateException.class, () -> x.weave(60));
        Check.throwing("look, no order", IllegalStateException.class, () -> x.look(60));
    }

    private static void hookAt() {
        JacquardDeck x = Check.loom(1, 1);
        x.addCone(0, 0, 100);
        Check.throwing("no row, no hook", IndexOutOfBoundsException.class, () -> x.hookAt(0, 16));
        x.weave(1);
        Check.throwing("no hook", IllegalArgumentException.class, () -> x.hookAt(0, 16));
        Check.throwing("no row, no hook", IndexOutOfBoundsException.class, () -> x.hookAt(1, -1));
        Check.throwing("no row, no hook", IndexOutOfBoundsException.class, () -> x.hookAt(-1, -1));
    }

    private static void cut() {
        JacquardDeck x = new JacquardDeck();
        Check.throwing("no order, and so no rows of it", IllegalStateException.class, x::cut);
        x.addPattern(1);
        x.addOrder(0, 1);
        Check.throwing("it waits", IllegalStateException.class, x::cut);
        x.begin(0);
        Check.throwing("it has no rows", UnsupportedOperationException.class, x::cut);
    }

    private static void type() {
        JacquardDeck x = new JacquardDeck();
        for (int count = 0; count < 20; count++) {
            x.type('a');
        }
        Check.throwing("20, and no letter", IllegalArgumentException.class, () -> x.type((char) ('a' - 1)));
        Check.throwing("20, and no letter", IllegalArgumentException.class, () -> x.type((char) ('z' + 1)));
        Check.throwing("20", IllegalStateException.class, () -> x.type('a'));
    }

    private static void rightShare() {
        JacquardDeck x = new JacquardDeck();
        Check.throwing("no order, no rows", IllegalStateException.class, x::rightShare);
        x.addPattern(1);
        x.addOrder(0, 1);
        x.begin(0);
        Check.throwing("no rows", NoSuchElementException.class, x::rightShare);
    }
}
