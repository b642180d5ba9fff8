/** Each boundary that the document names for faults: promises 29 to 34. */
final class EdgesOfFaultsTest {
    private static final int[] FAR = {-1, Integer.MIN_VALUE, Integer.MAX_VALUE};

    public static void main(String[] args) {
        look1To60();
        lookAtFewerThanThereAre();
        lookAtNothing();
        lookWithNoOrder();
        unweaveDownTo();
        unweaveWithNothingThere();
        piecesFromTheLastOneOn();
        piecesOfEachColour();
        wear3StaysAnd4IsThrownAway();
        someOfARowAreThrownAway();
        aPartOfAWornThread();
        recoverWithNothingRight();
        recoverWithNoCloth();
        recoverWithAllRight();
        recoverOnlyForMore();
        recoverWhenSeveralAreBest();
        recoverOnlyWhatWaits();
        recoverForAShorterOrder();
        recoverWithNoOrder();
        cutWithJustSoManyRows();
        cutWithOneWrongRow();
        cutEmptiesTheLoom();
        cutOfTheOrderThatTookTheLoom();
        cutOfALongLog();
        entriesOfTheLog();
        unwovenOfAllCloth();
        Check.end();
    }

    private static void look1To60() {
        JacquardDeck x = Check.loom(1, 60);
        x.addCone(0, 0, 2000);
        x.slip(0, 15);
        x.weave(1);
        x.slip(0, 15);
        x.weave(59);
        Check.throwing("look 0", IllegalArgumentException.class, () -> x.look(0));
        Check.throwing("look 61", IllegalArgumentException.class, () -> x.look(61));
        for (int rows : FAR) {
            Check.throwing("look " + rows, IllegalArgumentException.class, () -> x.look(rows));
        }
        Check.due("the first of 60 is wrong", x.look(60), 0);
        Check.due("it is not among the last 59", x.look(59), -1);
        Check.due("the last one", x.look(1), -1);
        x.unweave(59);
        x.slip(0, 0);
        x.weave(1);
        Check.due("the last one is wrong", x.look(1), 59);
        Check.due("it is the first wrong one of 59", x.look(59), 59);
        Check.due("not of 60", x.look(60), 0);
    }

    private static void lookAtFewerThanThereAre() {
        JacquardDeck x = Check.loom(1, 60);
        x.addCone(0, 0, 2000);
        x.slip(0, 0);
        x.weave(1);
        Check.due("one row, and 60 are asked", x.look(60), 0);
        Check.due("one row, and 1 is asked", x.look(1), 0);
        Check.due("one row, and 2 are asked", x.look(2), 0);
        x.slip(0, 0);
        x.weave(2);
        Check.due("the last 2 of 3", x.look(2), -1);
        Check.due("the last 3 of 3", x.look(3), 0);
        Check.due("4, and 3 are there", x.look(4), 0);
    }

    private static void lookAtNothing() {
        JacquardDeck x = Check.loom(1, 60);
        Check.due("no rows, none is wrong", x.look(1), -1);
        Check.due("no rows, none is wrong", x.look(60), -1);
    }

    private static void lookWithNoOrder() {
        JacquardDeck x = new JacquardDeck();
        x.addPattern(1);
        x.addOrder(0, 1);
        Check.throwing("it waits", IllegalStateException.class, () -> x.look(1));
        Check.throwing("it waits", IllegalStateException.class, () -> x.look(60));
        x.begin(0);
        Check.due("it is on the loom", x.look(1), -1);
    }

    private static void unweaveDownTo() {
        JacquardDeck x = Check.loom(1, 60);
        x.addCone(0, 0, 2000);
        x.weave(60);
        Check.throwing("61 of 60", IndexOutOfBoundsException.class, () -> x.unweave(61));
        for (int rows : FAR) {
            Check.throwing("unweave " + rows, IndexOutOfBoundsException.class, () -> x.unweave(rows));
        }
        Check.due("all stay", x.unweave(60), 0);
        Check.due("nothing was unwoven", x.unwoven(), 0);
        Check.due("59 stay", x.unweave(59), 1);
        Check.throwing("60 of 59", IndexOutOfBoundsException.class, () -> x.unweave(60));
        Check.due("1 stays", x.unweave(1), 58);
        Check.throwing("2 of 1", IndexOutOfBoundsException.class, () -> x.unweave(2));
        Check.due("none stays", x.unweave(0), 1);
        Check.due("unwoven", x.unwoven(), 60);
        Check.due("the order is on the loom still", x.stateOf(0), 'l');
        Check.throwing("1 of none", IndexOutOfBoundsException.class, () -> x.unweave(1));
        Check.due("nothing is there", x.unweave(0), 0);
    }

    private static void unweaveWithNothingThere() {
        JacquardDeck x = new JacquardDeck();
        Check.due("with no order", x.unweave(0), 0);
        Check.throwing("1", IndexOutOfBoundsException.class, () -> x.unweave(1));
        Check.throwing("-1", IndexOutOfBoundsException.class, () -> x.unweave(-1));
        JacquardDeck y = Check.loom(1, 1);
        y.addCone(0, 0, 100);
        y.weave(1);
        y.cut();
        Check.due("the cloth was cut", y.unweave(0), 0);
        Check.throwing("the cloth was cut", IndexOutOfBoundsException.class, () -> y.unweave(1));
        Check.due("what was cut does not come back", y.stock(0), 75);
    }

    private static void piecesFromTheLastOneOn() {
        JacquardDeck x = Check.loom(1, 60);
        x.addCone(0, 1, 10);
        x.addCone(0, 2, 12);
        x.addCone(0, 3, 12);
        x.addCone(0, 4, 100);
        x.weave(2);
        Check.due("10, 9 of 12, 6 of 12; then 3, 22 of 100", x.stock(0), 75);
        x.unweave(1);
        Check.dueThreads("the second row", x, 0, "3:1 4:1 4:0");
        Check.due("3, 22 and 75: what knots used is lost", x.stock(0), 100);
        x.unweave(0);
        Check.dueThreads("the first row: the piece taken first is the first", x, 0, "1:1 2:1 3:1 3:1 4:1 4:0");
        Check.due("10, 9, 6 more", x.stock(0), 125);
        Check.due("three knots, of 3 each", x.knots(), 3);
    }

    private static void piecesOfEachColour() {
        JacquardDeck x = new JacquardDeck();
        x.addPattern(4);
        for (int colour = 0; colour < 4; colour++) {
            x.setRow(0, colour, 0, colour, 1 + colour);
            x.addCone(colour, 10 + colour, 40);
        }
        x.compile(0);
        x.addOrder(0, 60);
        x.begin(0);
        x.weave(4);
        for (int colour = 3; colour >= 0; colour--) {
            int need = 30 - 1 - colour;
            Check.due("used of colour " + colour, x.stock(colour), 40 - need);
            x.unweave(colour);
            Check.due("back to colour " + colour, x.stock(colour), 40);
            Check.dueThreads("a thread of its own, though of one lot", x, colour,
                    (10 + colour) + ":1 " + (10 + colour) + ":0");
        }
    }

    private static void wear3StaysAnd4IsThrownAway() {
        JacquardDeck x = Check.loom(1, 60);
        x.addCone(0, 1, 25);
        for (int wear = 1; wear <= 3; wear++) {
            Check.due("weave", x.weave(1), 1);
            x.unweave(0);
            Check.dueThreads("worn " + wear, x, 0, "1:" + wear);
            Check.due("nothing is thrown away", x.thrownAway(0), 0);
        }
        Check.due("a thread of the wear 3 is woven still", x.weave(1), 1);
        Check.due("it is sound in the cloth", x.isSound(), true);
        Check.due("unweave", x.unweave(0), 1);
        Check.due("then it is thrown away", x.thrownAway(0), 25);
        Check.due("it is gone", x.threads(0), 0);
        Check.due("sound", x.isSound(), true);
        Check.due("nothing to weave with", x.weave(1), 0);
    }

    private static void someOfARowAreThrownAway() {
        JacquardDeck x = Check.loom(1, 60);
        x.addCone(0, 1, 20);
        x.addCone(0, 2, 100);
        x.weave(1);
        x.unweave(0);
        Check.dueThreads("20, 5 and the rest of 92", x, 0, "1:1 2:1 2:0");
        x.weave(1);
        x.unweave(0);
        Check.dueThreads("20, 2 of 5, 3 and the rest of 86", x, 0, "1:2 2:2 2:1 2:0");
        x.weave(1);
        x.unweave(0);
        Check.dueThreads("20, 5 and the rest of 78", x, 0, "1:3 2:1 2:0");
        Check.due("2 and 3 were too short", x.thrownAway(0), 5);
        x.weave(1);
        x.unweave(0);
        Check.dueThreads("2 of 5, 3 and the rest of 72", x, 0, "2:2 2:1 2:0");
        Check.due("only 20 was too worn", x.thrownAway(0), 5 + 20);
        Check.due("stock", x.stock(0), 2 + 3 + 72);
        Check.due("sound", x.isSound(), true);
    }

    private static void aPartOfAWornThread() {
        JacquardDeck x = Check.loomFor(0, 0, 1);
        x.addCone(0, 1, 58);
        x.weave(1);
        x.unweave(0);
        x.setRow(0, 0, 0, 0, 9);
        x.compile(0);
        x.weave(1);
        Check.dueThreads("8 of 29 are left, worn as it was", x, 0, "1:1 1:0");
        x.unweave(0);
        Check.dueThreads("21 with 1 more wear than it had", x, 0, "1:2 1:1 1:0");
        x.weave(2);
        Check.dueThreads("21, then 8 and 13 of 29", x, 0, "1:0");
        x.unweave(0);
        Check.dueThreads("each with 1 more", x, 0, "1:3 1:2 1:1 1:0");
        Check.due("a knot", x.stock(0), 58 - 3);
    }

    private static void recoverWithNothingRight() {
        JacquardDeck x = Check.loom(1, 60);
        x.addOrder(0, 60);
        x.addCone(0, 0, 2000);
        x.slip(0, 0);
        x.weave(5);
        Check.due("all are right for no row: that on the loom", x.recover(), 0);
        Check.due("all are unwoven", x.woven(), 0);
        Check.due("unwoven", x.unwoven(), 5);
        Check.due("the other waits", x.stateOf(1), 'w');
    }

    private static void recoverWithNoCloth() {
        JacquardDeck x = new JacquardDeck();
        x.addPattern(1);
        x.addOrder(0, 60);
        x.addOrder(0, 60);
        x.begin(1);
        Check.due("no cloth: that on the loom", x.recover(), 1);
        Check.due("it is on the loom", x.stateOf(1), 'l');
        Check.due("the lower one waits", x.stateOf(0), 'w');
        Check.due("no entries", x.entries(), 0);
    }

    private static void recoverWithAllRight() {
        JacquardDeck x = Check.loom(1, 60);
        x.addCone(0, 0, 2000);
        x.weave(60);
        x.unweave(8);
        x.weave(7);
        Check.due("all are right", x.rightRows(0), 15);
        Check.due("recover", x.recover(), 0);
        Check.due("nothing is unwoven", x.woven(), 15);
        Check.due("but what was", x.unwoven(), 52);
    }

    /** The cloth has 4 plain rows and then a wrong one; the patterns 1, 2, 3 share 3, 4, 5 rows with it. */
    private static JacquardDeck loomOfMany() {
        JacquardDeck x = Check.loom(1, 60);
        x.addCone(0, 0, 2000);
        for (int pattern = 1; pattern <= 3; pattern++) {
            x.addPattern(10);
            for (int row = 0; row < 10; row++) {
                x.setRow(pattern, row, row < 2 + pattern ? row == 4 ? 1 : 0 : 2, 0, 5);
            }
        }
        x.weave(4);
        x.slip(0, 0);
        x.weave(1);
        x.slip(0, 0);
        return x;
    }

    private static void recoverOnlyForMore() {
        JacquardDeck x = loomOfMany();
        x.addOrder(1, 60);
        x.addOrder(2, 60);
        Check.due("one fewer", x.rightRows(1), 3);
        Check.due("as many", x.rightRows(2), 4);
        Check.due("neither has more", x.recover(), 0);
        Check.due("down to 4", x.woven(), 4);
        JacquardDeck y = loomOfMany();
        y.addOrder(1, 60);
        y.addOrder(3, 60);
        Check.due("one more", y.rightRows(2), 5);
        Check.due("it has more", y.recover(), 2);
        Check.due("nothing to unweave", y.woven(), 5);
        Check.due("it is on the loom", y.stateOf(2), 'l');
        Check.due("the one before waits", y.stateOf(0), 'w');
        Check.due("the other waits", y.stateOf(1), 'w');
        Check.due("again: that on the loom", y.recover(), 2);
    }

    private static void recoverWhenSeveralAreBest() {
        JacquardDeck x = loomOfMany();
        x.addOrder(1, 60);
        x.addOrder(3, 60);
        x.addOrder(3, 60);
        Check.due("the lowest of the best", x.recover(), 2);
        Check.due("the first waits", x.stateOf(0), 'w');
        x.unweave(4);
        Check.due("all of 0, 2 and 3 are right: that on the loom", x.recover(), 2);
        Check.due("down to 4", x.woven(), 4);
        x.setRow(3, 0, 9, 0, 5);
        x.setRow(0, 0, 9, 0, 5);
        Check.due("now 1 is best", x.recover(), 1);
        Check.due("down to 3", x.woven(), 3);
        Check.due("the one before waits", x.stateOf(2), 'w');
    }

    private static void recoverOnlyWhatWaits() {
        JacquardDeck x = new JacquardDeck();
        x.addPattern(1);
        x.compile(0);
        x.addPattern(1);
        x.setRow(1, 0, 1, 0, 5);
        x.compile(1);
        x.addCone(0, 0, 2000);
        x.addOrder(0, 2);
        x.addOrder(0, 2);
        x.addOrder(1, 2);
        x.begin(0);
        x.weave(2);
        x.cut();
        x.begin(1);
        x.slip(0, 0);
        x.weave(2);
        x.slip(0, 0);
        Check.due("a second", x.cut(), 'b');
        x.begin(2);
        x.slip(1, 0);
        x.weave(2);
        Check.due("right for the one that was sold", x.rightRows(0), 2);
        Check.due("right for the second", x.rightRows(1), 2);
        Check.due("neither waits", x.recover(), 2);
        Check.due("all is unwoven", x.woven(), 0);
        Check.due("sold", x.stateOf(0), 's');
        Check.due("a second", x.stateOf(1), 'b');
    }

    private static void recoverForAShorterOrder() {
        JacquardDeck x = Check.loom(1, 60);
        x.addPattern(1);
        x.addOrder(1, 3);
        x.addOrder(1, 4);
        x.addCone(0, 0, 2000);
        x.weave(5);
        x.setRow(0, 0, 1, 0, 5);
        Check.due("the order with most rows", x.recover(), 2);
        Check.due("down to all of its rows", x.woven(), 4);
        Check.due("it can be cut at once", x.cut(), 's');
    }

    private static void recoverWithNoOrder() {
        JacquardDeck x = new JacquardDeck();
        Check.throwing("a new loom", IllegalStateException.class, x::recover);
        x.addPattern(1);
        x.compile(0);
        x.addCone(0, 0, 100);
        x.addOrder(0, 1);
        x.addOrder(0, 1);
        Check.throwing("orders wait", IllegalStateException.class, x::recover);
        x.begin(0);
        x.weave(1);
        x.cut();
        Check.throwing("an order was cut, another waits", IllegalStateException.class, x::recover);
        Check.due("it waits still", x.stateOf(1), 'w');
    }

    private static void cutWithJustSoManyRows() {
        for (int rows : new int[] {1, 2, 7, 8}) {
            JacquardDeck x = Check.loom(1, rows);
            x.addCone(0, 0, 2000);
            Check.throwing("no rows of " + rows, UnsupportedOperationException.class, x::cut);
            if (rows > 1) {
                x.weave(rows - 1);
                Check.throwing("one fewer", UnsupportedOperationException.class, x::cut);
            }
            x.weave(1);
            Check.due("just so many", x.cut(), 's');
        }
        JacquardDeck y = Check.loom(1, 60);
        y.addCone(0, 0, 2000);
        y.weave(59);
        Check.throwing("59 of 60", UnsupportedOperationException.class, y::cut);
        y.weave(1);
        Check.due("60 of 60", y.cut(), 's');
    }

    private static void cutWithOneWrongRow() {
        for (int wrong = -1; wrong < 5; wrong++) {
            JacquardDeck x = Check.loom(1, 5);
            x.addCone(0, 0, 2000);
            for (int row = 0; row < 5; row++) {
                if (row == wrong) {
                    x.slip(0, 7);
                    x.weave(1);
                    x.slip(0, 7);
                } else {
                    x.weave(1);
                }
            }
            char want = wrong < 0 ? 's' : 'b';
            Check.due("wrong is row " + wrong, x.cut(), want);
            Check.due("its state", x.stateOf(0), want);
        }
        JacquardDeck y = Check.loom(2, 5);
        y.addCone(0, 0, 2000);
        y.weave(5);
        y.setRow(0, 1, 0, 0, 6);
        Check.due("as told now", y.cut(), 'b');
    }

    private static void cutEmptiesTheLoom() {
        JacquardDeck x = Check.loom(1, 2);
        x.addOrder(0, 1);
        Check.throwing("a loom with too few rows", UnsupportedOperationException.class, x::cut);
        x.addCone(0, 0, 100);
        x.weave(2);
        x.cut();
        Check.due("no entries", x.entries(), 0);
        Check.due("no cloth", x.woven(), 0);
        Check.throwing("cut", IllegalStateException.class, x::cut);
        Check.throwing("weave", IllegalStateException.class, () -> x.weave(1));
        Check.throwing("look", IllegalStateException.class, () -> x.look(1));
        Check.throwing("recover", IllegalStateException.class, x::recover);
        Check.throwing("rightShare", IllegalStateException.class, x::rightShare);
        Check.due("wear of the card stays", x.wear(0), 2);
        Check.due("thread that was not used stays", x.stock(0), 50);
        Check.due("sound", x.isSound(), true);
        Check.due("the next one", x.begin(1), true);
        Check.throwing("it has no rows yet", UnsupportedOperationException.class, x::cut);
        x.weave(1);
        Check.due("the log begins anew", x.entries(), 1);
        Check.due("cut", x.cut(), 's');
    }

    private static void cutOfTheOrderThatTookTheLoom() {
        JacquardDeck x = Check.loom(1, 3);
        x.addPattern(3);
        x.setRow(1, 2, 1, 0, 5);
        x.addOrder(1, 3);
        x.addCone(0, 0, 100);
        x.weave(2);
        x.slip(0, 0);
        x.weave(1);
        Check.due("all are right for the other", x.recover(), 1);
        Check.due("it is sold", x.cut(), 's');
        Check.due("its state", x.stateOf(1), 's');
        Check.due("the first waits", x.stateOf(0), 'w');
    }

    /** The log is much longer than the cloth, and its first entries count as well as its last ones. */
    private static void cutOfALongLog() {
        for (int wrong = 0; wrong < 2; wrong++) {
            JacquardDeck x = Check.loom(1, 60);
            for (int cone = 0; cone < 12; cone++) {
                x.addCone(0, 0, 2000);
            }
            if (wrong == 1) {
                x.slip(0, 0);
            }
            x.weave(1);
            x.punch(0);
            for (int time = 0; time < 50; time++) {
                x.weave(59);
                x.unweave(1);
            }
            Check.due("entries", x.entries(), 1 + 50 * 2 * 59);
            Check.due("the rest is woven", x.weave(60), 59);
            Check.due("the first row decides", x.look(60), wrong == 1 ? 0 : -1);
            Check.due("sound", x.isSound(), true);
            Check.due("cut", x.cut(), wrong == 1 ? 'b' : 's');
            Check.due("sound", x.isSound(), true);
        }
    }

    private static void entriesOfTheLog() {
        JacquardDeck x = Check.loom(1, 10);
        x.addCone(0, 0, 200);
        Check.due("at first", x.entries(), 0);
        x.weave(1);
        Check.due("a row", x.entries(), 1);
        x.unweave(1);
        Check.due("none is unwoven", x.entries(), 1);
        x.unweave(0);
        Check.due("a row unwoven", x.entries(), 2);
        Check.due("8 rows", x.weave(60), 8);
        Check.due("as many as were woven", x.entries(), 10);
        x.weave(1);
        Check.due("none was woven", x.entries(), 10);
        x.slip(0, 0);
        x.recover();
        Check.due("none was wrong", x.entries(), 10);
        x.setRow(0, 0, 1, 0, 5);
        x.recover();
        Check.due("all were wrong", x.entries(), 18);
        Check.word(x, "weave");
        Check.due("no card", x.entries(), 18);
        x.compile(0);
        Check.word(x, "weave");
        Check.due("by a word", x.entries(), 19);
        Check.word(x, "back");
        Check.due("by a word", x.entries(), 20);
    }

    private static void unwovenOfAllCloth() {
        JacquardDeck x = Check.loom(1, 2);
        x.addOrder(0, 2);
        x.addCone(0, 0, 2000);
        Check.due("at first", x.unwoven(), 0);
        x.weave(2);
        Check.due("weaving unweaves none", x.unwoven(), 0);
        x.unweave(1);
        Check.due("one", x.unwoven(), 1);
        x.weave(1);
        Check.word(x, "back");
        Check.due("by a word", x.unwoven(), 2);
        x.weave(1);
        x.setRow(0, 0, 1, 0, 5);
        x.recover();
        Check.due("by recovering", x.unwoven(), 4);
        x.compile(0);
        x.weave(2);
        x.cut();
        Check.due("what is cut is not unwoven", x.unwoven(), 4);
        x.begin(1);
        x.weave(2);
        x.unweave(0);
        Check.due("of the next cloth too", x.unwoven(), 6);
    }
}
