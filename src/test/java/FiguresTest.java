import java.util.NoSuchElementException;

/** Promises 37 to 39: figures. */
final class FiguresTest {
    public static void main(String[] args) {
        rightShare();
        meanWear();
        isSound();
        Check.end();
    }

    private static void rightShare() {
        JacquardDeck x = new JacquardDeck();
        Check.throwing("no order", IllegalStateException.class, x::rightShare);
        x.addPattern(1);
        x.compile(0);
        x.addOrder(0, 60);
        x.begin(0);
        x.addCone(0, 0, 2000);
        Check.throwing("no rows", NoSuchElementException.class, x::rightShare);
        x.weave(1);
        Check.due("1 of 1", x.rightShare(), 1.0f);
        x.slip(0, 0);
        x.weave(1);
        Check.due("1 of 2", x.rightShare(), 0.5f);
        x.slip(0, 0);
        x.weave(1);
        Check.due("2 of 3, not only first rows", x.rightShare(), 2.0f / 3.0f);
        x.setRow(0, 0, 1, 0, 5);
        Check.due("1 of 3 as told now", x.rightShare(), 1.0f / 3.0f);
        x.setRow(0, 0, 1, 2, 5);
        Check.due("0 of 3", x.rightShare(), 0.0f);
    }

    private static void meanWear() {
        JacquardDeck x = Check.loom(1, 60);
        Check.throwing("no threads", NoSuchElementException.class, x::meanWear);
        x.addCone(0, 0, 100);
        Check.due("0 of 1", x.meanWear(), 0.0);
        x.addCone(1, 0, 100);
        x.addCone(3, 0, 100);
        x.weave(1);
        x.unweave(0);
        Check.due("1 of 4", x.meanWear(), 0.25);
        x.weave(1);
        x.unweave(0);
        x.weave(2);
        x.unweave(0);
        Check.due("3 and 1 of 5", x.meanWear(), 4.0 / 5.0);
        x.addCone(2, 0, 1);
        Check.due("4 of 6", x.meanWear(), 4.0 / 6.0);

        JacquardDeck y = Check.loom(1, 1);
        y.addCone(0, 0, 25);
        y.weave(1);
        Check.throwing("all thread is in the cloth", NoSuchElementException.class, y::meanWear);
    }

    private static void isSound() {
        JacquardDeck x = Check.loom(1, 20);
        Check.due("without thread", x.isSound(), true);
        x.addOrder(0, 5);
        x.addCone(0, 0, 60);
        x.addCone(0, 1, 3);
        x.addCone(0, 2, 400);
        Check.due("thread in stock", x.isSound(), true);
        x.weave(3);
        Check.due("thread in cloth, in a knot, thrown away", x.isSound(), true);
        for (int time = 0; time < 5; time++) {
            x.unweave(0);
            Check.due("unwoven", x.isSound(), true);
            x.weave(5);
            Check.due("woven again", x.isSound(), true);
        }
        x.weave(20);
        x.unweave(5);
        x.setRow(0, 0, 1, 0, 5);
        x.addPattern(1);
        x.addOrder(1, 5);
        x.recover();
        Check.due("recovered", x.isSound(), true);
        x.cut();
        Check.due("cut", x.isSound(), true);
    }
}
