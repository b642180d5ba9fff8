/** Each boundary that the document names for threads: promises 12 to 18. */
final class EdgesOfThreadsTest {
    private static final int[] FAR = {-1, Integer.MIN_VALUE, Integer.MAX_VALUE};

    public static void main(String[] args) {
        coloursOfCones();
        lotsOfCones();
        lengthsOfCones();
        twelveConesOfAColour();
        aConeComesBehindAllOthers();
        aConeIsWithoutWear();
        colourOutOfRange();
        indexOfAThread();
        needOfEachTension();
        needOfEachColour();
        firstThreadHoweverShort();
        nextThreadOf3And4();
        manyThatAreTooShort();
        usedUpJustSoByARow();
        usedUpJustSoBehindAKnot();
        justEnoughWithKnots();
        notEnoughUsesNothing();
        partOfTheRows();
        thrownAwayForBothReasons();
        knotsOfAllColours();
        Check.end();
    }

    private static void coloursOfCones() {
        JacquardDeck x = new JacquardDeck();
        for (int colour = 0; colour < 4; colour++) {
            Check.due("no thread yet", x.threads(colour), 0);
            Check.due("the first of colour " + colour, x.addCone(colour, 0, 10 + colour), 1);
        }
        Check.throwing("colour 4", IllegalArgumentException.class, () -> x.addCone(4, 0, 1));
        for (int colour : FAR) {
            Check.throwing("colour " + colour, IllegalArgumentException.class, () -> x.addCone(colour, 0, 1));
        }
        for (int colour = 0; colour < 4; colour++) {
            Check.due("stock of colour " + colour, x.stock(colour), 10 + colour);
        }
    }

    private static void lotsOfCones() {
        JacquardDeck x = new JacquardDeck();
        Check.due("lot 0", x.addCone(0, 0, 5), 1);
        Check.due("lot 99", x.addCone(0, 99, 5), 2);
        Check.throwing("lot 100", IllegalArgumentException.class, () -> x.addCone(0, 100, 5));
        for (int lot : FAR) {
            Check.throwing("lot " + lot, IllegalArgumentException.class, () -> x.addCone(0, lot, 5));
        }
        Check.dueThreads("lots 0 and 99", x, 0, "0:0 99:0");
    }

    private static void lengthsOfCones() {
        JacquardDeck x = new JacquardDeck();
        Check.due("length 1", x.addCone(0, 0, 1), 1);
        Check.due("length 2000", x.addCone(0, 0, 2000), 2);
        Check.throwing("length 0", IllegalArgumentException.class, () -> x.addCone(0, 0, 0));
        Check.throwing("length 2001", IllegalArgumentException.class, () -> x.addCone(0, 0, 2001));
        for (int length : FAR) {
            Check.throwing("length " + length, IllegalArgumentException.class, () -> x.addCone(0, 0, length));
        }
        Check.due("stock", x.stock(0), 2001);
        Check.due("threads", x.threads(0), 2);
    }

    private static void twelveConesOfAColour() {
        JacquardDeck x = new JacquardDeck();
        for (int colour = 0; colour < 4; colour++) {
            for (int cone = 1; cone <= 12; cone++) {
                Check.due("cone " + cone + " of colour " + colour, x.addCone(colour, 0, 2000), cone);
            }
            int c = colour;
            Check.throwing("a 13th", IllegalStateException.class, () -> x.addCone(c, 0, 1));
            Check.due("all of them", x.stock(c), 24000);
            Check.due("twelve threads", x.threads(c), 12);
        }
        JacquardDeck y = Check.loom(1, 12);
        for (int cone = 0; cone < 12; cone++) {
            Check.due("alone, as those before are woven", y.addCone(0, 0, 25), 1);
            y.weave(1);
        }
        Check.due("sold", y.cut(), 's');
        Check.throwing("12 came, though none is left", IllegalStateException.class, () -> y.addCone(0, 0, 1));
        Check.due("one of another colour", y.addCone(1, 0, 1), 1);
    }

    private static void aConeComesBehindAllOthers() {
        JacquardDeck x = Check.loom(1, 60);
        x.addCone(0, 1, 40);
        x.weave(1);
        x.addCone(0, 2, 40);
        Check.dueThreads("behind a rest", x, 0, "1:0 2:0");
        x.unweave(0);
        Check.due("behind what came back", x.addCone(0, 3, 40), 4);
        Check.dueThreads("behind what came back", x, 0, "1:1 1:0 2:0 3:0");
    }

    private static void aConeIsWithoutWear() {
        JacquardDeck x = Check.loom(1, 60);
        x.addCone(0, 1, 25);
        for (int time = 0; time < 3; time++) {
            x.weave(1);
            x.unweave(0);
        }
        Check.dueThreads("worn three times", x, 0, "1:3");
        x.addCone(0, 1, 25);
        Check.dueThreads("a cone of the same lot", x, 0, "1:3 1:0");
    }

    private static void colourOutOfRange() {
        JacquardDeck x = new JacquardDeck();
        for (int colour = 0; colour < 4; colour++) {
            x.addCone(colour, 1, 7);
            Check.due("stock of " + colour, x.stock(colour), 7);
            Check.due("threads of " + colour, x.threads(colour), 1);
            Check.due("wearOfThread of " + colour, x.wearOfThread(colour, 0), 0);
            Check.due("lotOfThread of " + colour, x.lotOfThread(colour, 0), 1);
            Check.due("thrownAway of " + colour, x.thrownAway(colour), 0);
        }
        for (int colour : new int[] {4, -1, Integer.MIN_VALUE, Integer.MAX_VALUE}) {
            Check.throwing("stock", IllegalArgumentException.class, () -> x.stock(colour));
            Check.throwing("threads", IllegalArgumentException.class, () -> x.threads(colour));
            Check.throwing("wearOfThread", IllegalArgumentException.class, () -> x.wearOfThread(colour, 0));
            Check.throwing("lotOfThread", IllegalArgumentException.class, () -> x.lotOfThread(colour, 0));
            Check.throwing("thrownAway", IllegalArgumentException.class, () -> x.thrownAway(colour));
        }
    }

    private static void indexOfAThread() {
        JacquardDeck x = new JacquardDeck();
        for (int colour = 0; colour < 4; colour++) {
            for (int cone = 0; cone < 3 * colour; cone++) {
                x.addCone(colour, 10 * colour + cone, 1);
            }
            int c = colour;
            int count = 3 * colour;
            for (int index = 0; index < count; index++) {
                Check.due("lot of " + index, x.lotOfThread(c, index), 10 * c + index);
                Check.due("wear of " + index, x.wearOfThread(c, index), 0);
            }
            for (int index : new int[] {count, count + 1, -1, Integer.MIN_VALUE, Integer.MAX_VALUE}) {
                Check.throwing("wear of " + index, IndexOutOfBoundsException.class, () -> x.wearOfThread(c, index));
                Check.throwing("lot of " + index, IndexOutOfBoundsException.class, () -> x.lotOfThread(c, index));
            }
        }
    }

    private static void needOfEachTension() {
        for (int tension = 1; tension <= 9; tension++) {
            int need = 30 - tension;
            JacquardDeck x = Check.loomFor(0, 0, tension);
            x.addCone(0, 0, need - 1);
            Check.due("1 too few for the tension " + tension, x.weave(60), 0);
            Check.due("nothing is used", x.stock(0), need - 1);
            JacquardDeck y = Check.loomFor(0, 0, tension);
            y.addCone(0, 0, need);
            Check.due("just enough for the tension " + tension, y.weave(60), 1);
            Check.due("all is used", y.stock(0), 0);
            Check.due("it is gone", y.threads(0), 0);
            JacquardDeck z = Check.loomFor(0, 0, tension);
            z.addCone(0, 0, need * 2 + 1);
            Check.due("two rows of the tension " + tension, z.weave(60), 2);
            Check.due("1 is left", z.stock(0), 1);
        }
    }

    private static void needOfEachColour() {
        for (int colour = 0; colour < 4; colour++) {
            JacquardDeck x = Check.loomFor(0, colour, 5);
            for (int other = 0; other < 4; other++) {
                if (other != colour) {
                    x.addCone(other, 0, 2000);
                }
            }
            Check.due("none of colour " + colour, x.weave(60), 0);
            x.addCone(colour, 0, 2000);
            Check.due("then there is", x.weave(60), 60);
            for (int other = 0; other < 4; other++) {
                Check.due("stock of " + other, x.stock(other), other == colour ? 500 : 2000);
            }
        }
    }

    private static void firstThreadHoweverShort() {
        for (int length = 1; length <= 4; length++) {
            JacquardDeck x = Check.loom(1, 60);
            x.addCone(0, 1, length);
            x.addCone(0, 2, 100);
            Check.due("weave", x.weave(1), 1);
            Check.due("the first is used whole, the next is knotted on", x.stock(0), 100 - 3 - (25 - length));
            Check.due("one knot", x.knots(), 1);
            Check.due("nothing is thrown away", x.thrownAway(0), 0);
            Check.due("both lots are in the cloth", x.lots(), 2);
            x.weave(1);
            Check.due("the next row needs no knot", x.knots(), 1);
        }
    }

    private static void nextThreadOf3And4() {
        JacquardDeck x = Check.loom(1, 60);
        x.addCone(0, 1, 24);
        x.addCone(0, 2, 3);
        x.addCone(0, 3, 30);
        x.weave(1);
        Check.due("3 is thrown away", x.thrownAway(0), 3);
        Check.due("with no knot", x.knots(), 1);
        Check.due("30 less 3 less 1", x.stock(0), 26);
        JacquardDeck y = Check.loom(1, 60);
        y.addCone(0, 1, 24);
        y.addCone(0, 2, 4);
        y.addCone(0, 3, 30);
        y.weave(1);
        Check.due("4 is not thrown away", y.thrownAway(0), 0);
        Check.due("it is knotted on", y.knots(), 1);
        Check.due("1 of it is enough, and it is gone", y.threads(0), 1);
        Check.due("the next one stays", y.stock(0), 30);
        JacquardDeck z = Check.loom(1, 60);
        z.addCone(0, 1, 23);
        z.addCone(0, 2, 4);
        z.addCone(0, 3, 30);
        z.weave(1);
        Check.due("1 of 4, then 1 of 30", z.knots(), 2);
        Check.due("three lots", z.lots(), 3);
        Check.due("30 less 3 less 1", z.stock(0), 26);
    }

    private static void manyThatAreTooShort() {
        JacquardDeck x = Check.loom(1, 60);
        x.addCone(0, 1, 1);
        for (int cone = 0; cone < 10; cone++) {
            x.addCone(0, 2, 1 + cone % 3);
        }
        Check.due("1, and none of the others", x.weave(1), 0);
        Check.due("all are there still", x.threads(0), 11);
        x.addCone(0, 3, 27);
        Check.due("24 of the last one", x.weave(1), 1);
        Check.due("all between are thrown away", x.thrownAway(0), 1 + 2 + 3 + 1 + 2 + 3 + 1 + 2 + 3 + 1);
        Check.due("one knot", x.knots(), 1);
        Check.due("none is left", x.threads(0), 0);
        Check.due("lots 1 and 3", x.lots(), 2);
    }

    private static void usedUpJustSoByARow() {
        JacquardDeck x = Check.loom(1, 60);
        x.addCone(0, 1, 25);
        x.addCone(0, 2, 3);
        x.addCone(0, 3, 50);
        Check.due("weave", x.weave(1), 1);
        Check.due("it is gone", x.threads(0), 2);
        Check.due("no more is needed, so none is thrown away", x.thrownAway(0), 0);
        Check.due("nor knotted on", x.knots(), 0);
        Check.due("the next row: 3 whole, as the first, then 22", x.weave(1), 1);
        Check.due("one knot", x.knots(), 1);
        Check.due("nothing is thrown away", x.thrownAway(0), 0);
        Check.due("stock", x.stock(0), 50 - 3 - 22);
    }

    private static void usedUpJustSoBehindAKnot() {
        JacquardDeck x = Check.loom(1, 60);
        x.addCone(0, 1, 20);
        x.addCone(0, 2, 8);
        x.addCone(0, 3, 2);
        x.weave(1);
        Check.due("20, and 5 of 8 behind the knot: it is gone", x.threads(0), 1);
        Check.due("the short one stays", x.lotOfThread(0, 0), 3);
        Check.due("stock", x.stock(0), 2);
        Check.due("nothing is thrown away", x.thrownAway(0), 0);
        JacquardDeck y = Check.loom(1, 60);
        y.addCone(0, 1, 20);
        y.addCone(0, 2, 9);
        y.weave(1);
        Check.due("of 9, 1 is left", y.stock(0), 1);
        Check.due("as a thread", y.threads(0), 1);
    }

    private static void justEnoughWithKnots() {
        for (int last = 13; last <= 15; last++) {
            JacquardDeck x = Check.loom(1, 60);
            x.addCone(0, 1, 10);
            x.addCone(0, 2, 7);
            x.addCone(0, 3, last);
            boolean isEnough = last >= 14;
            Check.due("10, 4 of 7, 11 of " + last, x.weave(1), isEnough ? 1 : 0);
            Check.due("knots", x.knots(), isEnough ? 2 : 0);
            Check.due("stock", x.stock(0), isEnough ? last - 14 : 30);
        }
        JacquardDeck y = Check.loom(1, 60);
        y.addCone(0, 1, 23);
        y.addCone(0, 2, 3);
        Check.due("26 in all, but a knot uses 3", y.weave(1), 0);
        y.addCone(0, 3, 2);
        Check.due("28 in all, but none is longer than 3", y.weave(1), 0);
        y.addCone(0, 4, 5);
        Check.due("2 of 5", y.weave(1), 1);
        Check.due("thrown away", y.thrownAway(0), 5);
    }

    private static void notEnoughUsesNothing() {
        JacquardDeck x = Check.loom(1, 60);
        Check.due("no thread at all", x.weave(60), 0);
        x.addCone(0, 1, 10);
        x.addCone(0, 2, 2);
        x.addCone(0, 3, 17);
        Check.due("10, none of 2, 14 of 17", x.weave(60), 0);
        Check.dueThreads("nothing is used", x, 0, "1:0 2:0 3:0");
        Check.due("stock", x.stock(0), 29);
        Check.due("nothing is thrown away", x.thrownAway(0), 0);
        Check.due("no knot", x.knots(), 0);
        Check.due("no row", x.woven(), 0);
        Check.due("no entry", x.entries(), 0);
        Check.due("no wear of the card", x.wear(0), 0);
    }

    private static void partOfTheRows() {
        JacquardDeck x = new JacquardDeck();
        x.addPattern(2);
        x.setRow(0, 1, 0, 1, 5);
        x.compile(0);
        x.addOrder(0, 60);
        x.begin(0);
        x.addCone(0, 1, 74);
        x.addCone(1, 1, 2000);
        Check.due("0 and 1, 0 and 1, then 24 are left", x.weave(60), 4);
        Check.due("stock 0", x.stock(0), 24);
        Check.due("stock 1", x.stock(1), 1950);
        x.addCone(0, 2, 4);
        Check.due("24 and 1 of 4, then of the other", x.weave(60), 2);
        Check.due("woven", x.woven(), 6);
        Check.due("none is left", x.threads(0), 0);
    }

    private static void thrownAwayForBothReasons() {
        JacquardDeck x = new JacquardDeck();
        x.addPattern(2);
        x.setRow(0, 1, 0, 2, 5);
        x.compile(0);
        x.addOrder(0, 60);
        x.begin(0);
        x.addCone(0, 1, 22);
        x.addCone(0, 2, 2);
        x.addCone(0, 3, 6);
        x.addCone(2, 4, 25);
        x.weave(2);
        Check.due("too short", x.thrownAway(0), 2);
        x.unweave(0);
        Check.due("unweaving throws nothing away yet", x.thrownAway(0), 2);
        Check.due("22 and 3", x.stock(0), 25);
        Check.due("a first of 22, and a next of 3", x.weave(1), 0);
        x.addCone(0, 5, 100);
        for (int time = 0; time < 3; time++) {
            Check.due("woven again", x.weave(2), 2);
            x.unweave(0);
        }
        Check.due("3 each time as too short, at last 22 as too worn", x.thrownAway(0), 2 + 3 + 3 + 3 + 22);
        Check.due("25 of the other colour", x.thrownAway(2), 25);
        Check.due("none of the third", x.thrownAway(1), 0);
        Check.due("sound", x.isSound(), true);
    }

    private static void knotsOfAllColours() {
        JacquardDeck x = new JacquardDeck();
        x.addPattern(4);
        for (int colour = 0; colour < 4; colour++) {
            x.setRow(0, colour, 0, colour, 5);
            x.addCone(colour, 0, 20);
            x.addCone(colour, 0, 100);
        }
        x.compile(0);
        x.addOrder(0, 60);
        x.begin(0);
        for (int colour = 0; colour < 4; colour++) {
            Check.due("knots so far", x.knots(), colour);
            x.weave(1);
        }
        Check.due("knots", x.knots(), 4);
        x.unweave(0);
        Check.due("knots stay made", x.knots(), 4);
    }
}
