import java.util.NoSuchElementException;

/** Promises 1 to 11: a new object, patterns and cards. */
final class PatternsTest {
    private static final int[] OUTSIDE = {-1, Integer.MIN_VALUE, Integer.MAX_VALUE};

    public static void main(String[] args) {
        newObject();
        addPattern();
        setRow();
        compile();
        compileOfAHundred();
        cardOf();
        readsAs();
        slipAndPunch();
        shared();
        Check.end();
    }

    private static void newObject() {
        JacquardDeck x = new JacquardDeck();
        Check.due("cards", x.cards(), 0);
        Check.due("knots", x.knots(), 0);
        Check.due("woven", x.woven(), 0);
        Check.due("lots", x.lots(), 0);
        Check.due("entries", x.entries(), 0);
        Check.due("unwoven", x.unwoven(), 0);
        Check.due("isSound", x.isSound(), true);
        Check.due("doWord", x.doWord(), false);
        for (int colour = 0; colour < 4; colour++) {
            Check.due("stock", x.stock(colour), 0);
            Check.due("threads", x.threads(colour), 0);
            Check.due("thrownAway", x.thrownAway(colour), 0);
        }
        Check.throwing("compile(0)", IndexOutOfBoundsException.class, () -> x.compile(0));
        Check.throwing("stateOf(0)", IndexOutOfBoundsException.class, () -> x.stateOf(0));
        Check.throwing("meanWear", NoSuchElementException.class, x::meanWear);
        Check.throwing("recover", IllegalStateException.class, x::recover);
    }

    private static void addPattern() {
        JacquardDeck x = new JacquardDeck();
        for (int rows : new int[] {0, 25, -1, Integer.MIN_VALUE, Integer.MAX_VALUE}) {
            Check.throwing("addPattern out of range", IllegalArgumentException.class, () -> x.addPattern(rows));
        }
        int[] rows = {1, 24, 2, 3, 4, 5};
        for (int i = 0; i < 6; i++) {
            Check.due("addPattern", x.addPattern(rows[i]), i);
        }
        Check.throwing("a seventh pattern", IllegalStateException.class, () -> x.addPattern(1));
        Check.throwing("a seventh, out of range", IllegalArgumentException.class, () -> x.addPattern(25));
        Check.due("the last row of 24", x.setRow(1, 23, 1, 0, 5), 0);
        Check.throwing("the row behind it", IndexOutOfBoundsException.class, () -> x.setRow(1, 24, 1, 0, 5));
        Check.throwing("a row behind one", IndexOutOfBoundsException.class, () -> x.setRow(0, 1, 1, 0, 5));
    }

    private static void setRow() {
        JacquardDeck x = new JacquardDeck();
        x.addPattern(2);
        Check.due("setRow first", x.setRow(0, 0, 65535, 3, 9), 0);
        Check.due("setRow again", x.setRow(0, 0, 0, 0, 1), 65535);
        Check.due("setRow of the other row", x.setRow(0, 1, 7, 0, 1), 0);
        for (int number : OUTSIDE) {
            Check.throwing("setRow pattern", IndexOutOfBoundsException.class, () -> x.setRow(number, 0, 0, 0, 5));
            Check.throwing("setRow row", IndexOutOfBoundsException.class, () -> x.setRow(0, number, 0, 0, 5));
            Check.throwing("setRow hooks", IllegalArgumentException.class, () -> x.setRow(0, 0, number, 0, 5));
            Check.throwing("setRow colour", IllegalArgumentException.class, () -> x.setRow(0, 0, 0, number, 5));
            Check.throwing("setRow tension", IllegalArgumentException.class, () -> x.setRow(0, 0, 0, 0, number));
        }
        Check.throwing("setRow pattern 1", IndexOutOfBoundsException.class, () -> x.setRow(1, 0, 0, 0, 5));
        Check.throwing("setRow row 2", IndexOutOfBoundsException.class, () -> x.setRow(0, 2, 0, 0, 5));
        Check.throwing("setRow hooks 65536", IllegalArgumentException.class, () -> x.setRow(0, 0, 65536, 0, 5));
        Check.throwing("setRow colour 4", IllegalArgumentException.class, () -> x.setRow(0, 0, 0, 4, 5));
        Check.throwing("setRow tension 0", IllegalArgumentException.class, () -> x.setRow(0, 0, 0, 0, 0));
        Check.throwing("setRow tension 10", IllegalArgumentException.class, () -> x.setRow(0, 0, 0, 0, 10));
        Check.throwing("setRow all wrong", IndexOutOfBoundsException.class, () -> x.setRow(9, 9, -1, -1, -1));
        Check.throwing("setRow row and more wrong", IndexOutOfBoundsException.class, () -> x.setRow(0, 9, -1, -1, -1));
        x.compile(0);
        Check.throwing("setRow hooks -1", IllegalArgumentException.class, () -> x.setRow(0, 0, -1, 0, 5));
        Check.due("a refused setRow leaves the card", x.cardOf(0, 0), 0);
        Check.due("a refused setRow leaves the hooks", x.setRow(0, 0, 5, 0, 5), 0);
    }

    private static void compile() {
        JacquardDeck x = new JacquardDeck();
        x.addPattern(4);
        x.setRow(0, 2, 0, 1, 5);
        Check.throwing("compile(-1)", IndexOutOfBoundsException.class, () -> x.compile(-1));
        Check.throwing("compile(1)", IndexOutOfBoundsException.class, () -> x.compile(1));
        Check.due("rows that are alike share a card", x.compile(0), 2);
        Check.due("cards", x.cards(), 2);
        Check.due("cardOf row 1", x.cardOf(0, 1), 0);
        Check.due("cardOf row 2", x.cardOf(0, 2), 1);
        Check.due("cardOf row 3", x.cardOf(0, 3), 0);
        Check.due("compiled again", x.compile(0), 0);
        x.setRow(0, 3, 0, 0, 6);
        Check.due("another tension is another card", x.compile(0), 1);
        Check.due("cardOf row 3 then", x.cardOf(0, 3), 2);
        x.slip(0, 3);
        x.setRow(0, 0, 8, 0, 5);
        Check.due("a slipped card was not punched for what it reads", x.compile(0), 1);
        Check.due("cardOf row 0 then", x.cardOf(0, 0), 3);
        x.setRow(0, 0, 0, 0, 5);
        Check.due("a slipped card is still the one punched for its row", x.compile(0), 0);
        Check.due("cardOf row 0 at last", x.cardOf(0, 0), 0);
        Check.due("compile leaves the slip", x.readsAs(0), 8);
        x.addPattern(1);
        Check.due("patterns share cards", x.compile(1), 0);
        Check.due("cardOf the other pattern", x.cardOf(1, 0), 0);
    }

    private static void compileOfAHundred() {
        JacquardDeck x = new JacquardDeck();
        int hooks = 1;
        for (int pattern = 0; pattern < 4; pattern++) {
            x.addPattern(24);
            for (int row = 0; row < 24; row++) {
                x.setRow(pattern, row, hooks++, 0, 5);
            }
            Check.due("compile of 24", x.compile(pattern), 24);
        }
        x.addPattern(5);
        for (int row = 0; row < 5; row++) {
            x.setRow(4, row, hooks++, 0, 5);
        }
        Check.throwing("a card too many", IllegalStateException.class, () -> x.compile(4));
        Check.due("cards as before", x.cards(), 96);
        Check.throwing("no card was given", NoSuchElementException.class, () -> x.cardOf(4, 0));
        Check.throwing("nor punched", IndexOutOfBoundsException.class, () -> x.wear(96));
        x.setRow(4, 4, 97, 0, 5);
        Check.due("just a hundred, two rows alike", x.compile(4), 4);
        Check.due("a hundred cards", x.cards(), 100);
        Check.due("the last card", x.readsAs(99), 100);
        Check.throwing("the card behind it", IndexOutOfBoundsException.class, () -> x.readsAs(100));
        Check.due("old cards when there are a hundred", x.compile(0), 0);
        x.setRow(0, 0, 60000, 0, 5);
        Check.throwing("the 101st card", IllegalStateException.class, () -> x.compile(0));
    }

    private static void cardOf() {
        JacquardDeck x = new JacquardDeck();
        x.addPattern(2);
        Check.throwing("before compile", NoSuchElementException.class, () -> x.cardOf(0, 0));
        Check.throwing("no such pattern", IndexOutOfBoundsException.class, () -> x.cardOf(1, 0));
        Check.throwing("pattern -1", IndexOutOfBoundsException.class, () -> x.cardOf(-1, 0));
        Check.throwing("no such row", IndexOutOfBoundsException.class, () -> x.cardOf(0, 2));
        Check.throwing("row -1", IndexOutOfBoundsException.class, () -> x.cardOf(0, -1));
        x.compile(0);
        x.setRow(0, 1, 0, 0, 5);
        Check.throwing("told anew as it was", NoSuchElementException.class, () -> x.cardOf(0, 1));
        Check.due("the row that was not told", x.cardOf(0, 0), 0);
        x.compile(0);
        Check.due("compiled again", x.cardOf(0, 1), 0);
    }

    private static void readsAs() {
        JacquardDeck x = new JacquardDeck();
        x.addPattern(1);
        x.setRow(0, 0, 65535, 0, 9);
        x.compile(0);
        x.addCone(0, 1, 2000);
        x.addOrder(0, 60);
        x.begin(0);
        for (int wear = 0; wear < 40; wear++) {
            int want = wear < 8 ? 65535 : 65535 - (1 << wear % 16);
            Check.due("wear", x.wear(0), wear);
            Check.due("readsAs", x.readsAs(0), want);
            x.weave(1);
            Check.due("the row is read ahead of its wear", x.hooksOf(wear), want);
        }
        for (int card : new int[] {-1, 1, 100, Integer.MIN_VALUE, Integer.MAX_VALUE}) {
            Check.throwing("readsAs", IndexOutOfBoundsException.class, () -> x.readsAs(card));
            Check.throwing("wear", IndexOutOfBoundsException.class, () -> x.wear(card));
            Check.throwing("slip", IndexOutOfBoundsException.class, () -> x.slip(card, 99));
            Check.throwing("punch", IndexOutOfBoundsException.class, () -> x.punch(card));
        }
    }

    private static void slipAndPunch() {
        JacquardDeck x = Check.loom(1, 60);
        x.addCone(0, 1, 2000);
        Check.due("slip", x.slip(0, 15), 32768);
        Check.due("slip", x.slip(0, 0), 32769);
        Check.due("slip back", x.slip(0, 15), 1);
        Check.due("slip", x.slip(0, 8), 257);
        for (int hook : new int[] {-1, 16, Integer.MIN_VALUE, Integer.MAX_VALUE, 32}) {
            Check.throwing("slip hook", IllegalArgumentException.class, () -> x.slip(0, hook));
        }
        x.weave(8);
        Check.due("hook 8 reads 0", x.readsAs(0), 1);
        Check.due("slip whatever the wear", x.slip(0, 1), 259);
        Check.due("punch", x.punch(0), 8);
        Check.due("wear then", x.wear(0), 0);
        Check.due("readsAs then", x.readsAs(0), 0);
        Check.due("punch again", x.punch(0), 0);
        Check.due("the cloth is as it was", x.hooksOf(0), 257);
        x.unweave(0);
        Check.due("unweaving doesn't mend a card", x.wear(0), 0);
        x.weave(2);
        x.unweave(0);
        Check.due("nor wears it", x.wear(0), 2);
    }

    private static void shared() {
        JacquardDeck x = new JacquardDeck();
        x.addPattern(2);
        x.addPattern(3);
        x.addOrder(0, 60);
        x.addOrder(1, 50);
        x.addOrder(0, 7);
        Check.due("all alike", x.shared(0, 1), 50);
        Check.due("the same order", x.shared(0, 0), 60);
        Check.due("the same pattern", x.shared(2, 0), 7);
        x.setRow(0, 1, 1, 0, 5);
        x.setRow(1, 1, 1, 0, 5);
        Check.due("gone round, unlike at 3", x.shared(0, 1), 3);
        x.setRow(1, 1, 1, 1, 5);
        Check.due("another colour", x.shared(1, 0), 1);
        x.setRow(1, 0, 0, 0, 6);
        Check.due("another tension", x.shared(0, 1), 0);
        for (int order : new int[] {-1, 3, 8, Integer.MIN_VALUE, Integer.MAX_VALUE}) {
            Check.throwing("shared", IndexOutOfBoundsException.class, () -> x.shared(order, 0));
            Check.throwing("shared", IndexOutOfBoundsException.class, () -> x.shared(0, order));
        }
    }
}
