/** Promises 12 to 18: threads, as they come, are used, knotted and thrown away. */
final class ThreadsTest {
    private static final int[] NO_COLOURS = {-1, 4, Integer.MIN_VALUE, Integer.MAX_VALUE};

    public static void main(String[] args) {
        addCone();
        asked();
        usedUpJustSo();
        knotsAndThrownAway();
        justEnough();
        notEnough();
        severalKnotsInARow();
        Check.end();
    }

    private static void addCone() {
        JacquardDeck x = new JacquardDeck();
        for (int cone = 1; cone <= 12; cone++) {
            Check.due("addCone", x.addCone(3, 99, 2000), cone);
        }
        Check.throwing("a 13th cone", IllegalStateException.class, () -> x.addCone(3, 0, 1));
        Check.throwing("a 13th, wrong", IllegalArgumentException.class, () -> x.addCone(3, 100, 1));
        Check.due("stock", x.stock(3), 24000);
        Check.due("another colour", x.addCone(0, 0, 1), 1);
        for (int colour : NO_COLOURS) {
            Check.throwing("addCone colour", IllegalArgumentException.class, () -> x.addCone(colour, 0, 1));
        }
        for (int lot : new int[] {-1, 100, Integer.MIN_VALUE, Integer.MAX_VALUE}) {
            Check.throwing("addCone lot", IllegalArgumentException.class, () -> x.addCone(0, lot, 1));
        }
        for (int length : new int[] {0, 2001, -1, Integer.MIN_VALUE, Integer.MAX_VALUE}) {
            Check.throwing("addCone length", IllegalArgumentException.class, () -> x.addCone(0, 0, length));
        }
        Check.due("threads as before", x.threads(0), 1);

        JacquardDeck used = Check.loom(1, 60);
        for (int cone = 0; cone < 12; cone++) {
            Check.due("addCone of one used up", used.addCone(0, 1, 25), 1);
            used.weave(1);
        }
        Check.throwing("cones that came count, used or not", IllegalStateException.class,
                () -> used.addCone(0, 1, 25));
    }

    private static void asked() {
        JacquardDeck x = new JacquardDeck();
        x.addCone(2, 5, 10);
        x.addCone(2, 6, 20);
        Check.due("stock", x.stock(2), 30);
        Check.due("stock of another", x.stock(1), 0);
        Check.due("threads", x.threads(2), 2);
        Check.due("lotOfThread 0", x.lotOfThread(2, 0), 5);
        Check.due("lotOfThread 1: a cone comes behind", x.lotOfThread(2, 1), 6);
        Check.due("wearOfThread 1", x.wearOfThread(2, 1), 0);
        for (int colour : NO_COLOURS) {
            Check.throwing("stock", IllegalArgumentException.class, () -> x.stock(colour));
            Check.throwing("threads", IllegalArgumentException.class, () -> x.threads(colour));
            Check.throwing("wearOfThread", IllegalArgumentException.class, () -> x.wearOfThread(colour, -1));
            Check.throwing("lotOfThread", IllegalArgumentException.class, () -> x.lotOfThread(colour, -1));
            Check.throwing("thrownAway", IllegalArgumentException.class, () -> x.thrownAway(colour));
        }
        for (int index : new int[] {-1, 2, Integer.MIN_VALUE, Integer.MAX_VALUE}) {
            Check.throwing("wearOfThread", IndexOutOfBoundsException.class, () -> x.wearOfThread(2, index));
            Check.throwing("lotOfThread", IndexOutOfBoundsException.class, () -> x.lotOfThread(2, index));
        }
        Check.throwing("no threads at all", IndexOutOfBoundsException.class, () -> x.wearOfThread(0, 0));
        Check.throwing("no threads at all", IndexOutOfBoundsException.class, () -> x.lotOfThread(0, 0));
    }

    private static void usedUpJustSo() {
        JacquardDeck x = Check.loom(1, 60);
        x.addCone(0, 1, 50);
        x.addCone(0, 2, 2);
        x.addCone(0, 3, 26);
        Check.due("weave", x.weave(2), 2);
        Check.due("a thread used up just so is gone", x.threads(0), 2);
        Check.due("the short one behind it waits", x.lotOfThread(0, 0), 2);
        Check.due("nothing thrown away", x.thrownAway(0), 0);
        Check.due("no knot", x.knots(), 0);
        Check.due("2 without a knot, then 23 of 26", x.weave(1), 1);
        Check.due("one knot", x.knots(), 1);
        Check.due("all used up", x.threads(0), 0);
        Check.due("a first thread is never thrown away", x.thrownAway(0), 0);
        Check.due("lots", x.lots(), 3);
    }

    private static void knotsAndThrownAway() {
        JacquardDeck x = Check.loom(1, 60);
        x.addCone(0, 1, 10);
        x.addCone(0, 2, 3);
        x.addCone(0, 3, 1);
        x.addCone(0, 4, 4);
        x.addCone(0, 5, 3);
        x.addCone(0, 6, 100);
        x.addCone(0, 7, 3);
        Check.due("weave", x.weave(1), 1);
        Check.due("thrown away 3, 1 and 3", x.thrownAway(0), 7);
        Check.due("knots at 4 and at 100", x.knots(), 2);
        Check.due("10, then 1 of 4, then 14 of 100", x.stock(0), 100 - 3 - 14 + 3);
        Check.due("lots", x.lots(), 3);
        Check.due("threads", x.threads(0), 2);
        Check.due("thrown away of another colour", x.thrownAway(1), 0);
    }

    private static void justEnough() {
        JacquardDeck x = Check.loom(1, 60);
        x.addCone(0, 1, 24);
        x.addCone(0, 1, 4);
        x.addCone(0, 1, 2);
        Check.due("24 and 1 of 4", x.weave(2), 1);
        Check.due("the short one stays when no more is needed", x.threads(0), 1);
        Check.due("nothing thrown away", x.thrownAway(0), 0);
        Check.due("stock", x.stock(0), 2);

        JacquardDeck y = Check.loom(1, 60);
        y.addCone(0, 1, 20);
        y.addCone(0, 1, 1);
        y.addCone(0, 1, 8);
        Check.due("20, none of 1, 5 of 8: a short one takes nothing from the others", y.weave(1), 1);
        Check.due("thrown away", y.thrownAway(0), 1);
    }

    private static void notEnough() {
        JacquardDeck x = Check.loom(1, 60);
        x.addCone(0, 1, 20);
        x.addCone(0, 2, 3);
        x.addCone(0, 3, 7);
        Check.due("20, none, 4 of 7 is 24", x.weave(1), 0);
        Check.due("nothing is thrown away", x.thrownAway(0), 0);
        Check.due("nothing is used", x.stock(0), 30);
        Check.due("no knot is made", x.knots(), 0);
        Check.due("no wear of the card", x.wear(0), 0);
        x.addCone(0, 4, 4);
        Check.due("1 more of the next", x.weave(1), 1);
        Check.due("thrown away then", x.thrownAway(0), 3);
        Check.due("knots then", x.knots(), 2);
        Check.due("stock then", x.stock(0), 0);
    }

    private static void severalKnotsInARow() {
        JacquardDeck x = new JacquardDeck();
        x.addPattern(2);
        x.setRow(0, 0, 0, 0, 1);
        x.setRow(0, 1, 0, 1, 9);
        x.compile(0);
        x.addOrder(0, 60);
        x.begin(0);
        for (int cone = 0; cone < 11; cone++) {
            x.addCone(0, cone, 6);
        }
        x.addCone(1, 0, 21);
        Check.due("29: 6, 7 times 3, 2", x.weave(60), 2);
        Check.due("8 knots", x.knots(), 8);
        Check.due("stock", x.stock(0), 1 + 6 + 6);
        Check.due("21 of the other colour", x.stock(1), 0);
        Check.due("lots of unlike colours are different", x.lots(), 10);
    }
}
