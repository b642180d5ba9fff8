import java.lang.reflect.Array;
import java.lang.reflect.Field;
import java.util.NoSuchElementException;

/** Each boundary that the document names for figures: promises 37 to 39. */
final class EdgesOfFiguresTest {
    public static void main(String[] args) throws Exception {
        rightShareWithNoOrder();
        rightShareWithNoRows();
        rightShareOf60();
        rightShareOfAShorterOrder();
        rightShareIsAFloat();
        meanWearOfNone();
        meanWearFrom0To3();
        meanWearOfAllColours();
        soundWithNothingThere();
        soundAllTheWay();
        soundThoughCutOften();
        notSoundIfTheLogTellsOtherwise();
        notSoundWithTooMuchWear();
        notSoundIfThreadIsMissing();
        Check.end();
    }

    private static void rightShareWithNoOrder() {
        JacquardDeck x = new JacquardDeck();
        Check.throwing("no order, and no rows either", IllegalStateException.class, x::rightShare);
        x.addPattern(1);
        x.compile(0);
        x.addCone(0, 0, 100);
        x.addOrder(0, 1);
        Check.throwing("it waits", IllegalStateException.class, x::rightShare);
        x.begin(0);
        x.weave(1);
        Check.due("it is on the loom", x.rightShare(), 1.0f);
        x.cut();
        Check.throwing("it is sold", IllegalStateException.class, x::rightShare);
    }

    private static void rightShareWithNoRows() {
        JacquardDeck x = Check.loom(1, 1);
        x.addCone(0, 0, 100);
        Check.throwing("no rows yet", NoSuchElementException.class, x::rightShare);
        x.weave(1);
        Check.due("one row", x.rightShare(), 1.0f);
        x.unweave(0);
        Check.throwing("no rows any more", NoSuchElementException.class, x::rightShare);
    }

    private static void rightShareOf60() {
        JacquardDeck x = Check.loom(1, 60);
        x.addCone(0, 0, 2000);
        x.weave(60);
        Check.due("60 of 60", x.rightShare(), 1.0f);
        x.unweave(59);
        x.slip(0, 0);
        x.weave(1);
        Check.due("all but the last", x.rightShare(), 59.0f / 60.0f);
        x.unweave(0);
        x.weave(1);
        Check.due("0 of 1", x.rightShare(), 0.0f);
        x.slip(0, 0);
        x.weave(59);
        Check.due("all but the first", x.rightShare(), 59.0f / 60.0f);
    }

    private static void rightShareOfAShorterOrder() {
        JacquardDeck x = Check.loom(2, 60);
        x.addPattern(1);
        x.addOrder(1, 3);
        x.addCone(0, 0, 2000);
        x.weave(4);
        x.setRow(0, 1, 1, 0, 5);
        Check.due("2 of 4", x.rightShare(), 0.5f);
        x.recover();
        Check.due("3 of the 3 that stay, for the other", x.rightShare(), 1.0f);
    }

    private static void rightShareIsAFloat() {
        for (int all = 1; all <= 60; all++) {
            JacquardDeck x = Check.loom(1, 60);
            x.addCone(0, 0, 2000);
            int right = all / 3;
            x.weave(all - right);
            x.setRow(0, 0, 0, 0, 6);
            x.compile(0);
            if (right > 0) {
                x.weave(right);
            }
            Check.due(right + " of " + all, x.rightShare(), (float) right / (float) all);
        }
    }

    private static void meanWearOfNone() {
        JacquardDeck x = Check.loom(1, 1);
        Check.throwing("none came", NoSuchElementException.class, x::meanWear);
        x.addCone(0, 0, 25);
        Check.due("one without wear", x.meanWear(), 0.0);
        x.weave(1);
        Check.throwing("all is in the cloth", NoSuchElementException.class, x::meanWear);
        x.unweave(0);
        Check.due("it came back", x.meanWear(), 1.0);
    }

    private static void meanWearFrom0To3() {
        JacquardDeck x = Check.loom(1, 60);
        x.addCone(0, 0, 25);
        for (int wear = 0; wear <= 3; wear++) {
            Check.due("one thread", x.meanWear(), wear);
            x.weave(1);
            x.unweave(0);
        }
        Check.throwing("it was thrown away", NoSuchElementException.class, x::meanWear);
    }

    private static void meanWearOfAllColours() {
        for (int colour = 0; colour < 4; colour++) {
            JacquardDeck x = Check.loomFor(0, colour, 5);
            x.addCone(colour, 0, 25);
            x.weave(1);
            x.unweave(0);
            Check.due("only colour " + colour, x.meanWear(), 1.0);
            for (int other = 0; other < 4; other++) {
                x.addCone(other, 0, 1);
                Check.due("and others without wear", x.meanWear(), 1.0 / (2.0 + other));
            }
        }
    }

    private static void soundWithNothingThere() {
        JacquardDeck x = new JacquardDeck();
        Check.due("a new loom", x.isSound(), true);
        x.addPattern(1);
        x.compile(0);
        x.addOrder(0, 60);
        x.begin(0);
        Check.due("a loom without cloth", x.isSound(), true);
        x.addCone(3, 0, 2000);
        Check.due("a cone that is not used", x.isSound(), true);
    }

    private static void soundAllTheWay() {
        JacquardDeck x = loomInUse();
        Check.due("in use", x.isSound(), true);
        x.unweave(0);
        Check.due("unwoven", x.isSound(), true);
        x.slip(0, 0);
        x.weave(4);
        Check.due("with wrong rows", x.isSound(), true);
        x.setRow(0, 0, 5, 3, 9);
        Check.due("with a row told anew", x.isSound(), true);
        x.recover();
        Check.due("recovered", x.isSound(), true);
    }

    private static void soundThoughCutOften() {
        JacquardDeck x = new JacquardDeck();
        x.addPattern(1);
        x.compile(0);
        x.addCone(0, 0, 300);
        for (int order = 0; order < 4; order++) {
            x.addOrder(0, 1 + order);
            x.begin(order);
            x.weave(60);
            x.cut();
            Check.due("what was sold and cut so far is known", x.isSound(), true);
            x.slip(0, 0);
        }
        Check.due("sold", x.stateOf(2), 's');
        Check.due("a second", x.stateOf(3), 'b');
        Check.due("10 rows", x.stock(0), 300 - 10 * 25);
    }

    /** Thread of two colours in stock and in the cloth, used by a knot, thrown away and sold. */
    private static JacquardDeck loomInUse() {
        JacquardDeck x = new JacquardDeck();
        x.addPattern(2);
        x.setRow(0, 1, 0, 1, 5);
        x.compile(0);
        x.addOrder(0, 2);
        x.addOrder(0, 60);
        x.begin(0);
        x.addCone(0, 1, 60);
        x.addCone(0, 2, 3);
        x.addCone(0, 3, 300);
        x.addCone(1, 1, 300);
        x.weave(2);
        x.cut();
        x.begin(1);
        x.weave(6);
        x.unweave(3);
        x.weave(1);
        return x;
    }

    /** Only from inside can a loom be made unsound; each of these has one thing in it changed. */
    private static Object inside(Object object, String field) throws Exception {
        Field found = object.getClass().getDeclaredField(field);
        found.setAccessible(true);
        return found.get(object);
    }

    private static void put(Object object, String field, int value) throws Exception {
        Field found = object.getClass().getDeclaredField(field);
        found.setAccessible(true);
        found.setInt(object, value);
    }

    private static Object element(Object array, int index) {
        return Array.get(array, index);
    }

    private static void notSoundIfTheLogTellsOtherwise() throws Exception {
        JacquardDeck x = loomInUse();
        Object log = inside(x, "log");
        int count = (Integer) inside(log, "count");
        put(log, "count", count - 1);
        Check.due("an entry too few", x.isSound(), false);
        put(log, "count", count);
        Check.due("as it was", x.isSound(), true);
        int[] wefts = (int[]) inside(inside(x, "cloth"), "wefts");
        for (int row : new int[] {0, 3}) {
            for (int bit : new int[] {1, 32768, 1 << 16, 1 << 18}) {
                wefts[row] ^= bit;
                Check.due("row " + row + " is another one", x.isSound(), false);
                wefts[row] ^= bit;
                Check.due("as it was", x.isSound(), true);
            }
        }
    }

    private static void notSoundWithTooMuchWear() throws Exception {
        JacquardDeck x = loomInUse();
        Object stocks = inside(x, "stocks");
        Object pieces = inside(inside(x, "cloth"), "pieces");
        Object[] threads = {inside(element(stocks, 0), "front"), inside(element(stocks, 1), "front"),
                inside(inside(element(stocks, 1), "front"), "next"), element(pieces, 0), element(pieces, 3)};
        for (Object thread : threads) {
            int wear = (Integer) inside(thread, "wear");
            put(thread, "wear", 4);
            Check.due("a wear of 4", x.isSound(), false);
            put(thread, "wear", 3);
            Check.due("a wear of 3", x.isSound(), true);
            put(thread, "wear", wear);
        }
    }

    private static void notSoundIfThreadIsMissing() throws Exception {
        JacquardDeck x = loomInUse();
        Object stocks = inside(x, "stocks");
        for (int colour = 0; colour < 4; colour++) {
            Object stock = element(stocks, colour);
            for (String field : new String[] {"lengthCame", "lengthThrownAway", "lengthGone", "knotsMade"}) {
                int was = (Integer) inside(stock, field);
                for (int other : new int[] {was - 1, was + 1}) {
                    put(stock, field, other);
                    Check.due(field + " of colour " + colour, x.isSound(), false);
                }
                put(stock, field, was);
                Check.due("as it was", x.isSound(), true);
            }
        }
        Object thread = inside(element(stocks, 0), "front");
        put(thread, "length", (Integer) inside(thread, "length") - 1);
        Check.due("1 less in stock", x.isSound(), false);
        put(thread, "length", (Integer) inside(thread, "length") + 1);
        Object piece = element(inside(inside(x, "cloth"), "pieces"), 1);
        put(piece, "length", (Integer) inside(piece, "length") - 1);
        Check.due("1 less in the cloth", x.isSound(), false);
        put(piece, "length", (Integer) inside(piece, "length") + 1);
        Check.due("as it was", x.isSound(), true);
    }
}
