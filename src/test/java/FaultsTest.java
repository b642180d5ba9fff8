/** Promises 29 to 34: faults, unweaving, recovering, cutting and the log. */
final class FaultsTest {
    public static void main(String[] args) {
        look();
        unweave();
        piecesComeBack();
        wornPiecesAreThrownAway();
        recoverForTheSame();
        recoverForAnother();
        recoverTies();
        recoverChoosesAmongWaiting();
        cut();
        cutFindsTheLog();
        counts();
        Check.end();
    }

    private static void look() {
        JacquardDeck x = new JacquardDeck();
        for (int rows : new int[] {0, 61, -1, Integer.MIN_VALUE, Integer.MAX_VALUE}) {
            Check.throwing("look rows", IllegalArgumentException.class, () -> x.look(rows));
        }
        Check.throwing("look with no order", IllegalStateException.class, () -> x.look(1));
        x.addPattern(1);
        x.compile(0);
        x.addOrder(0, 60);
        x.begin(0);
        x.addCone(0, 0, 2000);
        Check.due("no rows", x.look(60), -1);
        x.weave(3);
        x.slip(0, 0);
        x.weave(2);
        x.slip(0, 0);
        x.weave(4);
        Check.due("9 rows, wrong are 3 and 4", x.look(60), 3);
        Check.due("the last 6", x.look(6), 3);
        Check.due("the last 5", x.look(5), 4);
        Check.due("the last 4", x.look(4), -1);
        x.setRow(0, 0, 1, 0, 5);
        Check.due("as told now", x.look(6), 5);
    }

    private static void unweave() {
        JacquardDeck x = Check.loom(1, 60);
        x.addCone(0, 0, 100);
        Check.due("nothing to unweave", x.unweave(0), 0);
        x.weave(4);
        for (int rows : new int[] {-1, 5, Integer.MIN_VALUE, Integer.MAX_VALUE}) {
            Check.throwing("unweave", IndexOutOfBoundsException.class, () -> x.unweave(rows));
        }
        Check.due("all stay", x.unweave(4), 0);
        Check.due("3 stay", x.unweave(3), 1);
        Check.due("woven", x.woven(), 3);
        Check.due("stock", x.stock(0), 25);
        Check.due("none stays", x.unweave(0), 3);
        Check.due("stock", x.stock(0), 100);
        Check.due("each piece is a thread", x.threads(0), 4);
        Check.due("unwoven", x.unwoven(), 4);
        Check.due("the order stays on the loom", x.stateOf(0), 'l');

        JacquardDeck empty = new JacquardDeck();
        Check.due("with no order", empty.unweave(0), 0);
        Check.throwing("with no order", IndexOutOfBoundsException.class, () -> empty.unweave(1));
    }

    private static void piecesComeBack() {
        JacquardDeck x = Check.loom(1, 60);
        x.addCone(0, 1, 10);
        x.addCone(0, 2, 9);
        x.addCone(0, 3, 40);
        x.weave(2);
        Check.due("10, 6 of 9, 9 of 40; then 25", x.stock(0), 3);
        Check.due("knots", x.knots(), 2);
        x.unweave(0);
        int[] lots = {1, 2, 3, 3, 3};
        int[] wears = {1, 1, 1, 1, 0};
        Check.due("threads", x.threads(0), 5);
        for (int thread = 0; thread < 5; thread++) {
            Check.due("lot of " + thread, x.lotOfThread(0, thread), lots[thread]);
            Check.due("wear of " + thread, x.wearOfThread(0, thread), wears[thread]);
        }
        Check.due("what knots used is lost", x.stock(0), 59 - 6);
        Check.due("knots stay made", x.knots(), 2);
        Check.due("not thrown away", x.thrownAway(0), 0);
        x.weave(1);
        Check.due("10, 3 of 6, 6 of 9, 6 of 25", x.stock(0), 53 - 9 - 25);
        Check.due("knots then", x.knots(), 5);
        Check.due("threads then", x.threads(0), 2);
        Check.due("wear of the first", x.wearOfThread(0, 0), 1);
        x.unweave(0);
        Check.due("threads at last", x.threads(0), 6);
        Check.due("wear of the rest", x.wearOfThread(0, 4), 1);
        Check.due("wear of what was woven twice", x.wearOfThread(0, 3), 2);
        Check.due("sound", x.isSound(), true);
    }

    private static void wornPiecesAreThrownAway() {
        JacquardDeck x = Check.loom(1, 60);
        x.addCone(0, 1, 15);
        x.addCone(0, 2, 100);
        x.weave(1);
        x.unweave(0);
        threadsAre(x, new int[] {1, 1, 0}, 112);
        x.weave(1);
        x.unweave(0);
        Check.due("15, 7 of 10, 3 of 87", x.knots(), 3);
        threadsAre(x, new int[] {2, 2, 1, 0}, 106);
        x.weave(1);
        x.unweave(0);
        Check.due("15, 4 of 7, none of 3, 6 of 81", x.knots(), 5);
        Check.due("thrown away as too short", x.thrownAway(0), 3);
        threadsAre(x, new int[] {3, 3, 1, 0}, 97);
        x.weave(1);
        Check.due("nothing is thrown away as it is woven", x.thrownAway(0), 3);
        x.unweave(0);
        Check.due("15, 1 of 4, 3 of 6, 6 of 72", x.knots(), 8);
        Check.due("thrown away as too worn: 15 and 1", x.thrownAway(0), 3 + 16);
        threadsAre(x, new int[] {2, 1, 0}, 3 + 6 + 63);
        Check.due("sound", x.isSound(), true);
    }

    private static void threadsAre(JacquardDeck x, int[] wears, int stock) {
        Check.due("threads", x.threads(0), wears.length);
        for (int thread = 0; thread < wears.length; thread++) {
            Check.due("wear of " + thread, x.wearOfThread(0, thread), wears[thread]);
        }
        Check.due("stock", x.stock(0), stock);
    }

    private static void recoverForTheSame() {
        JacquardDeck none = new JacquardDeck();
        Check.throwing("recover with no order", IllegalStateException.class, none::recover);
        JacquardDeck x = Check.loom(1, 60);
        x.addCone(0, 0, 2000);
        Check.due("no cloth", x.recover(), 0);
        x.weave(5);
        Check.due("nothing wrong", x.recover(), 0);
        Check.due("woven", x.woven(), 5);
        x.slip(0, 0);
        x.weave(2);
        x.slip(0, 0);
        x.weave(2);
        Check.due("wrong at 5", x.recover(), 0);
        Check.due("woven then", x.woven(), 5);
        Check.due("unwoven then", x.unwoven(), 4);
        Check.due("entries then", x.entries(), 13);
        Check.due("state then", x.stateOf(0), 'l');
    }

    /** Pattern 0 has plain rows; pattern p has rows as 0 but for its last one, which has hook 0. */
    private static JacquardDeck loomOfThree() {
        JacquardDeck x = Check.loom(1, 60);
        x.addPattern(4);
        x.setRow(1, 3, 1, 0, 5);
        x.addPattern(6);
        x.setRow(2, 5, 1, 0, 5);
        x.addCone(0, 0, 2000);
        return x;
    }

    private static void recoverForAnother() {
        JacquardDeck x = loomOfThree();
        x.addOrder(1, 60);
        x.weave(3);
        x.slip(0, 0);
        x.weave(1);
        x.slip(0, 0);
        x.weave(4);
        Check.due("rows right for order 1", x.rightRows(1), 7);
        Check.due("order 1 takes the loom", x.recover(), 1);
        Check.due("it is on the loom", x.stateOf(1), 'l');
        Check.due("the other waits", x.stateOf(0), 'w');
        Check.due("its rows stay", x.woven(), 7);
        Check.throwing("the loom is not empty", IllegalStateException.class, () -> x.begin(0));
        x.compile(1);
        Check.due("it is woven on", x.weave(1), 1);
        Check.due("by its own cards", x.hooksOf(7), 1);
        Check.due("all are right for it", x.look(60), -1);
    }

    private static void recoverTies() {
        JacquardDeck x = loomOfThree();
        x.addOrder(0, 60);
        x.weave(3);
        Check.due("that on the loom wins against an equal", x.recover(), 0);
        x.addOrder(1, 60);
        x.addOrder(1, 60);
        x.slip(0, 0);
        x.weave(1);
        Check.due("the lowest of equals", x.recover(), 2);
        Check.due("the higher one waits", x.stateOf(3), 'w');
        Check.due("nothing unwoven", x.unwoven(), 0);
        x.setRow(1, 3, 0, 0, 5);
        x.setRow(0, 0, 1, 0, 5);
        x.setRow(2, 0, 1, 0, 5);
        Check.due("a higher one on the loom wins too", x.recover(), 2);
        Check.due("woven", x.woven(), 3);
    }

    private static void recoverChoosesAmongWaiting() {
        JacquardDeck x = Check.loom(1, 4);
        x.addCone(0, 0, 2000);
        x.weave(4);
        x.cut();
        x.addPattern(1);
        x.setRow(1, 0, 2, 0, 5);
        x.addOrder(1, 60);
        x.addOrder(0, 2);
        x.begin(1);
        x.setRow(1, 0, 0, 0, 5);
        x.compile(1);
        x.weave(4);
        x.setRow(1, 0, 2, 0, 5);
        Check.due("sold, though 4 rows are right for it", x.rightRows(0), 4);
        Check.due("only orders that wait are asked", x.recover(), 2);
        Check.due("its rows", x.woven(), 2);
        Check.due("the sold one", x.stateOf(0), 's');
        Check.due("cut of the one that took the loom", x.cut(), 's');
        Check.due("its state", x.stateOf(2), 's');
    }

    private static void cut() {
        JacquardDeck x = new JacquardDeck();
        Check.throwing("cut with no order", IllegalStateException.class, x::cut);
        x.addPattern(1);
        x.compile(0);
        x.addOrder(0, 3);
        x.addOrder(0, 1);
        x.begin(0);
        x.addCone(0, 0, 200);
        Check.throwing("cut with no rows", UnsupportedOperationException.class, x::cut);
        x.weave(2);
        Check.throwing("cut with too few", UnsupportedOperationException.class, x::cut);
        x.unweave(1);
        x.weave(2);
        Check.due("cut", x.cut(), 's');
        Check.due("woven", x.woven(), 0);
        Check.due("entries", x.entries(), 0);
        Check.due("unwoven of all cloth", x.unwoven(), 1);
        Check.due("lots", x.lots(), 0);
        Check.due("stock", x.stock(0), 125);
        Check.due("sold thread is not thrown away", x.thrownAway(0), 0);
        Check.due("sound", x.isSound(), true);
        Check.throwing("the loom is empty", IllegalStateException.class, () -> x.weave(1));
        Check.throwing("the loom is empty", IllegalStateException.class, () -> x.look(1));
        Check.throwing("the loom is empty", IllegalStateException.class, x::cut);
        x.begin(1);
        x.weave(1);
        x.setRow(0, 0, 4, 0, 5);
        Check.due("not right as told now", x.cut(), 'b');
        Check.due("sound", x.isSound(), true);
    }

    private static void cutFindsTheLog() {
        JacquardDeck x = Check.loom(1, 2);
        x.addOrder(0, 2);
        x.addCone(0, 0, 2000);
        x.slip(0, 0);
        x.weave(2);
        x.unweave(1);
        x.slip(0, 0);
        x.weave(1);
        Check.due("the first row is wrong", x.cut(), 'b');
        x.begin(1);
        x.slip(0, 0);
        x.weave(2);
        x.unweave(0);
        x.slip(0, 0);
        x.weave(2);
        Check.due("the wrong rows were unwoven", x.cut(), 's');
    }

    private static void counts() {
        JacquardDeck x = Check.loom(1, 60);
        x.addOrder(0, 1);
        x.addCone(0, 0, 2000);
        for (int cone = 0; cone < 11; cone++) {
            x.addCone(0, 0, 2000);
        }
        int entries = 0;
        int unwoven = 0;
        for (int time = 0; time < 95; time++) {
            entries += x.weave(60);
            Check.due("entries", x.entries(), entries);
            unwoven += x.unweave(0);
            entries = x.entries();
            Check.due("unwoven", x.unwoven(), unwoven);
        }
        Check.due("entries are what was woven and unwoven", entries, 2L * unwoven);
        Check.due("many", entries > 6000, true);
        Check.due("sound", x.isSound(), true);
        x.unweave(0);
        Check.due("nothing unwoven, no entry", x.entries(), entries);
    }
}
