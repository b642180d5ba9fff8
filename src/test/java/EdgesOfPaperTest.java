import java.util.NoSuchElementException;

/** Each boundary that the document names for patterns and cards: promises 1 to 11. */
final class EdgesOfPaperTest {
    private static final int[] FAR = {-1, Integer.MIN_VALUE, Integer.MAX_VALUE};

    public static void main(String[] args) {
        atFirstThereIsNothing();
        theLastCallOf512();
        sixPatterns();
        oneTo24Rows();
        rowsOfSetRow();
        hooksColourAndTensionOfSetRow();
        rowsAtFirst();
        rowsGoRound();
        cardsByRisingNumbers();
        cardsForJustTheseHooksColourAndTension();
        toldAnewHasNoCard();
        aHundredCards();
        compileRefusedLeavesCardsGiven();
        noCardsYet();
        wearBelowAndFrom8();
        wearGoesRoundAt16();
        aHookThatReads0();
        wearIsBehindTheReading();
        wearOfASharedCard();
        slipOfEachHook();
        punchAnew();
        sharedEdges();
        Check.end();
    }

    private static void atFirstThereIsNothing() {
        JacquardDeck x = new JacquardDeck();
        Check.throwing("no pattern", IndexOutOfBoundsException.class, () -> x.setRow(0, 0, 0, 0, 5));
        Check.throwing("no pattern", IndexOutOfBoundsException.class, () -> x.compile(0));
        Check.throwing("no pattern", IndexOutOfBoundsException.class, () -> x.cardOf(0, 0));
        Check.throwing("no pattern", IndexOutOfBoundsException.class, () -> x.addOrder(0, 1));
        Check.due("no cards", x.cards(), 0);
        Check.throwing("no card", IndexOutOfBoundsException.class, () -> x.readsAs(0));
        Check.throwing("no card", IndexOutOfBoundsException.class, () -> x.wear(0));
        Check.throwing("no card", IndexOutOfBoundsException.class, () -> x.slip(0, 0));
        Check.throwing("no card", IndexOutOfBoundsException.class, () -> x.punch(0));
        Check.throwing("no order", IndexOutOfBoundsException.class, () -> x.shared(0, 0));
        Check.throwing("no order", IndexOutOfBoundsException.class, () -> x.stateOf(0));
        Check.throwing("no order", IndexOutOfBoundsException.class, () -> x.begin(0));
        Check.throwing("no order", IndexOutOfBoundsException.class, () -> x.rightRows(0));
        for (int colour = 0; colour < 4; colour++) {
            int c = colour;
            Check.due("no thread", x.stock(c) + x.threads(c) + x.thrownAway(c), 0);
            Check.throwing("no thread", IndexOutOfBoundsException.class, () -> x.wearOfThread(c, 0));
            Check.throwing("no thread", IndexOutOfBoundsException.class, () -> x.lotOfThread(c, 0));
        }
        Check.throwing("no cloth", IndexOutOfBoundsException.class, () -> x.hooksOf(0));
        Check.throwing("no cloth", IndexOutOfBoundsException.class, () -> x.colourOf(0));
        Check.throwing("no cloth", IndexOutOfBoundsException.class, () -> x.hookAt(0, 0));
        Check.due("the first pattern is 0", x.addPattern(1), 0);
    }

    private static void theLastCallOf512() {
        JacquardDeck x = Check.loomFor(1, 0, 5);
        x.addCone(0, 0, 2000);
        x.cards();
        for (int call = 7; call < 509; call += 2) {
            x.weave(1);
            x.punch(0);
        }
        Check.due("call 510", x.woven(), 60);
        Check.due("call 511", x.isSound(), true);
        Check.due("call 512", x.cut(), 's');
    }

    private static void sixPatterns() {
        JacquardDeck x = new JacquardDeck();
        for (int pattern = 0; pattern < 6; pattern++) {
            int p = pattern;
            Check.throwing("not there yet", IndexOutOfBoundsException.class, () -> x.compile(p));
            Check.due("patterns are numbered from 0", x.addPattern(1), p);
        }
        Check.throwing("a 7th", IllegalStateException.class, () -> x.addPattern(1));
        Check.throwing("a 7th", IllegalStateException.class, () -> x.addPattern(24));
        Check.due("told: the last of six", x.setRow(5, 0, 1, 0, 5), 0);
        Check.due("compiled: the last of six", x.compile(5), 1);
        Check.due("cardOf the last of six", x.cardOf(5, 0), 0);
        Check.due("an order of the last of six", x.addOrder(5, 1), 0);
        Check.throwing("no pattern 6", IndexOutOfBoundsException.class, () -> x.setRow(6, 0, 0, 0, 5));
        Check.throwing("no pattern 6", IndexOutOfBoundsException.class, () -> x.compile(6));
        Check.throwing("no pattern 6", IndexOutOfBoundsException.class, () -> x.cardOf(6, 0));
        Check.throwing("no pattern 6", IndexOutOfBoundsException.class, () -> x.addOrder(6, 1));
        Check.throwing("no pattern 7", IndexOutOfBoundsException.class, () -> x.compile(7));
        for (int pattern : FAR) {
            Check.throwing("no pattern " + pattern, IndexOutOfBoundsException.class, () -> x.compile(pattern));
            Check.throwing("no pattern " + pattern, IndexOutOfBoundsException.class, () -> x.cardOf(pattern, 0));
            Check.throwing("no pattern " + pattern, IndexOutOfBoundsException.class, () -> x.addOrder(pattern, 1));
        }
    }

    private static void oneTo24Rows() {
        JacquardDeck x = new JacquardDeck();
        Check.throwing("0 rows", IllegalArgumentException.class, () -> x.addPattern(0));
        Check.throwing("25 rows", IllegalArgumentException.class, () -> x.addPattern(25));
        for (int rows : FAR) {
            Check.throwing("rows " + rows, IllegalArgumentException.class, () -> x.addPattern(rows));
        }
        Check.throwing("none was added", IndexOutOfBoundsException.class, () -> x.compile(0));
        Check.due("1 row", x.addPattern(1), 0);
        Check.due("24 rows", x.addPattern(24), 1);
    }

    private static void rowsOfSetRow() {
        JacquardDeck x = new JacquardDeck();
        x.addPattern(1);
        x.addPattern(24);
        Check.due("row 0 of 1", x.setRow(0, 0, 3, 0, 5), 0);
        Check.throwing("row 1 of 1", IndexOutOfBoundsException.class, () -> x.setRow(0, 1, 0, 0, 5));
        Check.throwing("cardOf row 1 of 1", IndexOutOfBoundsException.class, () -> x.cardOf(0, 1));
        Check.due("row 23 of 24", x.setRow(1, 23, 4, 0, 5), 0);
        Check.throwing("row 24 of 24", IndexOutOfBoundsException.class, () -> x.setRow(1, 24, 0, 0, 5));
        Check.throwing("cardOf row 24 of 24", IndexOutOfBoundsException.class, () -> x.cardOf(1, 24));
        for (int row : FAR) {
            Check.throwing("row " + row, IndexOutOfBoundsException.class, () -> x.setRow(1, row, 0, 0, 5));
            Check.throwing("cardOf row " + row, IndexOutOfBoundsException.class, () -> x.cardOf(1, row));
        }
        x.compile(1);
        Check.due("cardOf row 0 of 24", x.cardOf(1, 0), 0);
        Check.due("cardOf row 23 of 24", x.cardOf(1, 23), 1);
        Check.due("row 0 of 1 is as told", x.setRow(0, 0, 0, 0, 5), 3);
        Check.due("row 0 of 24 is as at first", x.setRow(1, 0, 0, 0, 5), 0);
        Check.due("row 23 of 24 is as told", x.setRow(1, 23, 0, 0, 5), 4);
    }

    private static void hooksColourAndTensionOfSetRow() {
        JacquardDeck x = new JacquardDeck();
        x.addPattern(1);
        Check.due("hooks 0, colour 0, tension 1", x.setRow(0, 0, 0, 0, 1), 0);
        Check.due("hooks 65535, colour 3, tension 9", x.setRow(0, 0, 65535, 3, 9), 0);
        Check.throwing("hooks 65536", IllegalArgumentException.class, () -> x.setRow(0, 0, 65536, 0, 5));
        Check.throwing("colour 4", IllegalArgumentException.class, () -> x.setRow(0, 0, 0, 4, 5));
        Check.throwing("tension 0", IllegalArgumentException.class, () -> x.setRow(0, 0, 0, 0, 0));
        Check.throwing("tension 10", IllegalArgumentException.class, () -> x.setRow(0, 0, 0, 0, 10));
        for (int number : FAR) {
            Check.throwing("hooks " + number, IllegalArgumentException.class, () -> x.setRow(0, 0, number, 0, 5));
            Check.throwing("colour " + number, IllegalArgumentException.class, () -> x.setRow(0, 0, 0, number, 5));
            Check.throwing("tension " + number, IllegalArgumentException.class, () -> x.setRow(0, 0, 0, 0, number));
        }
        Check.due("as last told without a fault", x.setRow(0, 0, 1, 0, 5), 65535);
        for (int hook = 0; hook < 16; hook++) {
            int next = hook < 15 ? 1 << hook + 1 : 0;
            Check.due("the hooks before, hook " + hook, x.setRow(0, 0, next, 0, 5), 1 << hook);
        }
    }

    private static void rowsAtFirst() {
        JacquardDeck x = new JacquardDeck();
        x.addPattern(24);
        x.addPattern(1);
        x.setRow(1, 0, 0, 0, 5);
        Check.due("all rows of a new pattern are alike", x.compile(0), 1);
        Check.due("no hook, the colour 0, the tension 5", x.compile(1), 0);
        Check.due("no hook is read", x.readsAs(0), 0);
        x.addOrder(0, 60);
        x.begin(0);
        x.addCone(0, 0, 24);
        Check.due("24 are too few for the tension 5", x.weave(1), 0);
        x.addCone(0, 0, 4);
        Check.due("25 are not", x.weave(1), 1);
        Check.due("no hook", x.hooksOf(0), 0);
        Check.due("the colour 0", x.colourOf(0), 0);
    }

    private static void rowsGoRound() {
        for (int rows : new int[] {1, 2, 7, 23, 24}) {
            JacquardDeck x = new JacquardDeck();
            x.addPattern(rows);
            for (int row = 0; row < rows; row++) {
                x.setRow(0, row, 100 + row, 0, 9);
            }
            x.compile(0);
            x.addOrder(0, 60);
            x.begin(0);
            x.addCone(0, 0, 2000);
            for (int row = 0; row < 60; row++) {
                for (int card = 0; card < rows && row % 7 == 0; card++) {
                    x.punch(card);
                }
                Check.due("row " + row + " is woven", x.weave(1), 1);
                Check.due("row " + row + " of " + rows, x.hooksOf(row), 100 + row % rows);
            }
            Check.due("all are right", x.rightRows(0), 60);
            Check.due("the order has no row 60", x.weave(1), 0);
        }
    }

    private static void cardsByRisingNumbers() {
        JacquardDeck x = new JacquardDeck();
        x.addPattern(5);
        int[] hooks = {9, 2, 9, 7, 2};
        int[] cards = {0, 1, 0, 2, 1};
        for (int row = 0; row < 5; row++) {
            x.setRow(0, row, hooks[row], 0, 5);
        }
        Check.due("cards punched", x.compile(0), 3);
        for (int row = 0; row < 5; row++) {
            Check.due("card of row " + row, x.cardOf(0, row), cards[row]);
        }
        Check.due("what card 0 is", x.readsAs(0), 9);
        Check.due("what card 1 is", x.readsAs(1), 2);
        Check.due("what card 2 is", x.readsAs(2), 7);
        x.addPattern(2);
        x.setRow(1, 0, 1, 0, 5);
        x.setRow(1, 1, 7, 0, 5);
        Check.due("one new, one as another pattern's", x.compile(1), 1);
        Check.due("the new one is behind all", x.cardOf(1, 0), 3);
        Check.due("the other pattern's", x.cardOf(1, 1), 2);
        Check.due("cards", x.cards(), 4);
    }

    private static void cardsForJustTheseHooksColourAndTension() {
        int[][] unlike = {{0, 0, 5}, {1, 0, 5}, {32768, 0, 5}, {0, 1, 5}, {0, 2, 5}, {0, 3, 5}, {0, 0, 1}, {0, 0, 4},
                {0, 0, 6}, {0, 0, 9}, {65535, 3, 9}, {65535, 3, 8}, {65535, 2, 9}, {65534, 3, 9}, {0, 3, 1}, {0, 1, 9}};
        JacquardDeck x = new JacquardDeck();
        x.addPattern(16);
        for (int row = 0; row < 16; row++) {
            x.setRow(0, row, unlike[row][0], unlike[row][1], unlike[row][2]);
        }
        Check.due("no two share a card", x.compile(0), 16);
        for (int row = 0; row < 16; row++) {
            Check.due("card of row " + row, x.cardOf(0, row), row);
            Check.due("it reads as told", x.readsAs(row), unlike[row][0]);
        }
    }

    private static void toldAnewHasNoCard() {
        JacquardDeck x = new JacquardDeck();
        x.addPattern(3);
        Check.throwing("not compiled yet", NoSuchElementException.class, () -> x.cardOf(0, 0));
        Check.throwing("not compiled yet", NoSuchElementException.class, () -> x.cardOf(0, 2));
        x.compile(0);
        x.setRow(0, 1, 0, 0, 5);
        Check.due("the row before", x.cardOf(0, 0), 0);
        Check.throwing("the row told as it was", NoSuchElementException.class, () -> x.cardOf(0, 1));
        Check.due("the row behind", x.cardOf(0, 2), 0);
        x.addPattern(1);
        x.compile(1);
        Check.throwing("another pattern was compiled", NoSuchElementException.class, () -> x.cardOf(0, 1));
        Check.due("it is compiled again, with no new card", x.compile(0), 0);
        Check.due("then it has one", x.cardOf(0, 1), 0);
        x.setRow(0, 2, 8, 0, 5);
        Check.due("cards stay when rows are told anew", x.cards(), 1);
        Check.due("one new card", x.compile(0), 1);
        Check.due("the new one", x.cardOf(0, 2), 1);
        Check.due("as before", x.cardOf(0, 1), 0);
        x.setRow(0, 0, 8, 0, 5);
        x.compile(0);
        Check.due("another card than before", x.cardOf(0, 0), 1);
    }

    /** A loom with this many cards, for the hooks 1, 2 and so on, in the patterns 0 to 3 and 4. */
    private static JacquardDeck loomWithCards(int cards) {
        JacquardDeck x = new JacquardDeck();
        int hooks = 1;
        for (int pattern = 0; hooks <= cards; pattern++) {
            int rows = Math.min(24, cards - hooks + 1);
            x.addPattern(rows);
            for (int row = 0; row < rows; row++) {
                x.setRow(pattern, row, hooks++, 0, 5);
            }
            x.compile(pattern);
        }
        return x;
    }

    private static void aHundredCards() {
        JacquardDeck x = loomWithCards(99);
        Check.due("99 cards", x.cards(), 99);
        Check.throwing("no card 99 yet", IndexOutOfBoundsException.class, () -> x.readsAs(99));
        x.addPattern(2);
        x.setRow(5, 0, 500, 0, 5);
        x.setRow(5, 1, 501, 0, 5);
        Check.throwing("2 more would be 101", IllegalStateException.class, () -> x.compile(5));
        Check.due("99 cards still", x.cards(), 99);
        x.setRow(5, 1, 500, 0, 5);
        Check.due("1 more is a hundred", x.compile(5), 1);
        Check.due("a hundred cards", x.cards(), 100);
        Check.due("the last card", x.cardOf(5, 1), 99);
        Check.due("readsAs it", x.readsAs(99), 500);
        Check.due("wear of it", x.wear(99), 0);
        Check.due("slip of it", x.slip(99, 0), 501);
        Check.due("punch of it", x.punch(99), 0);
        for (int card : new int[] {100, 101, -1, Integer.MIN_VALUE, Integer.MAX_VALUE}) {
            Check.throwing("readsAs " + card, IndexOutOfBoundsException.class, () -> x.readsAs(card));
            Check.throwing("wear " + card, IndexOutOfBoundsException.class, () -> x.wear(card));
            Check.throwing("slip " + card, IndexOutOfBoundsException.class, () -> x.slip(card, 0));
            Check.throwing("punch " + card, IndexOutOfBoundsException.class, () -> x.punch(card));
        }
        x.setRow(5, 0, 1, 0, 5);
        Check.due("full, but none is needed", x.compile(5), 0);
        Check.due("the old card", x.cardOf(5, 0), 0);
        x.setRow(5, 0, 600, 0, 5);
        Check.throwing("full, and one is needed", IllegalStateException.class, () -> x.compile(5));
    }

    private static void compileRefusedLeavesCardsGiven() {
        JacquardDeck x = loomWithCards(100);
        x.setRow(4, 1, 700, 0, 5);
        x.setRow(4, 2, 99, 0, 5);
        Check.throwing("one is needed", IllegalStateException.class, () -> x.compile(4));
        Check.due("the row ahead keeps its card", x.cardOf(4, 0), 96);
        Check.throwing("the row that needs one has none", NoSuchElementException.class, () -> x.cardOf(4, 1));
        Check.throwing("nor has the other that was told", NoSuchElementException.class, () -> x.cardOf(4, 2));
        Check.due("the row behind keeps its card", x.cardOf(4, 3), 99);
        Check.due("a hundred cards", x.cards(), 100);
    }

    private static void noCardsYet() {
        JacquardDeck x = new JacquardDeck();
        x.addPattern(3);
        for (int card : new int[] {0, 1, 99, 100}) {
            Check.throwing("no card " + card, IndexOutOfBoundsException.class, () -> x.readsAs(card));
            Check.throwing("no card " + card, IndexOutOfBoundsException.class, () -> x.wear(card));
            Check.throwing("no card " + card, IndexOutOfBoundsException.class, () -> x.slip(card, 0));
            Check.throwing("no card " + card, IndexOutOfBoundsException.class, () -> x.punch(card));
        }
        x.compile(0);
        Check.due("a new card has no wear", x.wear(0), 0);
        Check.throwing("the card behind the last", IndexOutOfBoundsException.class, () -> x.wear(1));
        Check.throwing("the card behind the last", IndexOutOfBoundsException.class, () -> x.readsAs(1));
        Check.throwing("the card behind the last", IndexOutOfBoundsException.class, () -> x.slip(1, 0));
        Check.throwing("the card behind the last", IndexOutOfBoundsException.class, () -> x.punch(1));
    }

    private static void wearBelowAndFrom8() {
        JacquardDeck x = Check.loomFor(65535, 0, 9);
        x.addCone(0, 0, 2000);
        x.weave(7);
        Check.due("wear", x.wear(0), 7);
        Check.due("wear 7 reads whole", x.readsAs(0), 65535);
        x.weave(1);
        Check.due("wear", x.wear(0), 8);
        Check.due("wear 8 reads hook 8 as 0", x.readsAs(0), 65535 - 256);
    }

    private static void wearGoesRoundAt16() {
        JacquardDeck x = Check.loomFor(65535, 0, 9);
        x.addCone(0, 0, 2000);
        x.weave(15);
        Check.due("wear 15: hook 15", x.readsAs(0), 65535 - 32768);
        x.weave(1);
        Check.due("wear 16: hook 0", x.readsAs(0), 65535 - 1);
        x.weave(7);
        Check.due("wear 23: hook 7", x.readsAs(0), 65535 - 128);
        x.weave(1);
        Check.due("wear 24: hook 8", x.readsAs(0), 65535 - 256);
        x.weave(7);
        Check.due("wear 31: hook 15", x.readsAs(0), 65535 - 32768);
        x.weave(1);
        Check.due("wear 32: hook 0", x.readsAs(0), 65535 - 1);
    }

    private static void aHookThatReads0() {
        JacquardDeck x = Check.loomFor(3, 0, 9);
        x.addCone(0, 0, 2000);
        x.weave(8);
        Check.due("hook 8 was 0 and stays 0", x.readsAs(0), 3);
        Check.due("hook 8 slips", x.slip(0, 8), 256 + 3);
        Check.due("it reads 0 all the same", x.readsAs(0), 3);
        x.weave(1);
        Check.due("with the wear 9 it reads 1", x.readsAs(0), 256 + 3);
        Check.due("row 8 had it as 0", x.hooksOf(8), 3);
    }

    private static void wearIsBehindTheReading() {
        JacquardDeck x = Check.loomFor(65535, 0, 9);
        x.addCone(0, 0, 2000);
        Check.due("weave", x.weave(10), 10);
        Check.due("the row that was read with the wear 0", x.hooksOf(0), 65535);
        Check.due("the row that was read with the wear 7", x.hooksOf(7), 65535);
        Check.due("the row that was read with the wear 8", x.hooksOf(8), 65535 - 256);
        Check.due("the row that was read with the wear 9", x.hooksOf(9), 65535 - 512);
        Check.due("its first wrong row", x.look(60), 8);
    }

    private static void wearOfASharedCard() {
        JacquardDeck x = new JacquardDeck();
        x.addPattern(3);
        x.setRow(0, 1, 1, 0, 5);
        x.compile(0);
        x.addOrder(0, 5);
        x.begin(0);
        x.addCone(0, 0, 2000);
        x.weave(5);
        Check.due("rows 0, 2 and 3", x.wear(0), 3);
        Check.due("rows 1 and 4", x.wear(1), 2);
        Check.due("nothing more is woven", x.weave(1), 0);
        Check.due("nor worn", x.wear(0) + x.wear(1), 5);
    }

    private static void slipOfEachHook() {
        JacquardDeck x = Check.loomFor(0x5555, 0, 5);
        for (int hook = 0; hook < 16; hook++) {
            Check.due("the other way round: " + hook, x.slip(0, hook), 0x5555 ^ 1 << hook);
            Check.due("it reads so", x.readsAs(0), 0x5555 ^ 1 << hook);
            Check.due("and back again", x.slip(0, hook), 0x5555);
        }
        for (int hook : new int[] {16, 17, 32, -1, Integer.MIN_VALUE, Integer.MAX_VALUE}) {
            Check.throwing("slip of hook " + hook, IllegalArgumentException.class, () -> x.slip(0, hook));
        }
        Check.due("as before", x.readsAs(0), 0x5555);
    }

    private static void punchAnew() {
        JacquardDeck x = Check.loomFor(7, 0, 5);
        x.addCone(0, 0, 2000);
        Check.due("without wear", x.punch(0), 0);
        x.weave(9);
        x.slip(0, 15);
        x.slip(0, 0);
        Check.due("the wear before", x.punch(0), 9);
        Check.due("then none", x.wear(0), 0);
        Check.due("as it was for", x.readsAs(0), 7);
        x.weave(8);
        Check.due("wear counts anew", x.wear(0), 8);
        x.setRow(0, 0, 6, 0, 5);
        Check.due("the wear before", x.punch(0), 8);
        Check.due("as it was for, not as told now", x.readsAs(0), 7);
        Check.due("no card more", x.cards(), 1);
    }

    private static void sharedEdges() {
        JacquardDeck x = new JacquardDeck();
        x.addPattern(24);
        x.addPattern(12);
        x.addPattern(1);
        x.addOrder(0, 1);
        x.addOrder(0, 59);
        x.addOrder(1, 60);
        x.addOrder(2, 60);
        x.addOrder(0, 60);
        Check.due("at most the rows of the one", x.shared(0, 2), 1);
        Check.due("at most the rows of the other", x.shared(2, 0), 1);
        Check.due("59 of 60", x.shared(1, 4), 59);
        Check.due("the same order", x.shared(4, 4), 60);
        Check.due("the same order of 1", x.shared(0, 0), 1);
        x.setRow(0, 23, 1, 0, 5);
        Check.due("unlike at the last row of the pattern", x.shared(2, 4), 23);
        x.setRow(1, 11, 1, 0, 5);
        Check.due("unlike at row 11", x.shared(4, 2), 11);
        x.setRow(0, 11, 1, 0, 5);
        Check.due("all alike, the one gone round twice as often", x.shared(4, 2), 60);
        x.setRow(0, 12, 2, 0, 5);
        Check.due("gone round, unlike at row 12", x.shared(4, 2), 12);
        Check.due("gone round, unlike at row 11", x.shared(4, 3), 11);
        x.setRow(2, 0, 0, 0, 6);
        Check.due("unlike at once", x.shared(3, 4), 0);
        for (int order : new int[] {5, 7, 8, -1, Integer.MIN_VALUE, Integer.MAX_VALUE}) {
            Check.throwing("shared, the first", IndexOutOfBoundsException.class, () -> x.shared(order, 0));
            Check.throwing("shared, the other", IndexOutOfBoundsException.class, () -> x.shared(0, order));
            Check.throwing("shared, both", IndexOutOfBoundsException.class, () -> x.shared(order, order));
        }
    }
}
