/** Promises 35 and 36: words. */
final class WordsTest {
    public static void main(String[] args) {
        type();
        otherWords();
        weave();
        look();
        back();
        mend();
        cut();
        Check.end();
    }

    private static void type() {
        JacquardDeck x = new JacquardDeck();
        for (char letter : new char[] {'a' - 1, 'z' + 1, 'A', ' ', 0, 65535, 228}) {
            Check.throwing("type " + (int) letter, IllegalArgumentException.class, () -> x.type(letter));
        }
        for (int count = 1; count <= 20; count++) {
            Check.due("type", x.type(count % 2 == 0 ? 'a' : 'z'), count);
        }
        Check.throwing("a 21st", IllegalStateException.class, () -> x.type('a'));
        Check.throwing("a 21st, wrong", IllegalArgumentException.class, () -> x.type('A'));
        Check.due("no such word", x.doWord(), false);
        Check.due("the letters are gone", x.type('q'), 1);
    }

    private static JacquardDeck loomWithThread() {
        JacquardDeck x = Check.loom(1, 60);
        x.addCone(0, 0, 100);
        return x;
    }

    private static void otherWords() {
        JacquardDeck x = loomWithThread();
        x.weave(1);
        for (String word : new String[] {"", "weav", "weaves", "wweave", "loo", "looks", "backk", "bac", "men",
                "mends", "cu", "cuts", "weavelook", "unweave", "recover", "x"}) {
            Check.due(word, Check.word(x, word), false);
            Check.due("letters left by " + word, x.type('a'), 1);
            x.doWord();
        }
        Check.due("nothing was done", x.entries(), 1);
    }

    private static void weave() {
        JacquardDeck x = new JacquardDeck();
        Check.due("no order", Check.word(x, "weave"), false);
        Check.due("letters are gone also then", x.type('a'), 1);
        x.doWord();
        JacquardDeck y = loomWithThread();
        for (int row = 1; row <= 4; row++) {
            Check.due("weave", Check.word(y, "weave"), true);
            Check.due("one row", y.woven(), row);
        }
        Check.due("no thread", Check.word(y, "weave"), false);
        Check.due("no row", y.woven(), 4);
        y.addCone(0, 0, 100);
        y.setRow(0, 0, 0, 0, 5);
        Check.due("no card", Check.word(y, "weave"), false);
        JacquardDeck z = Check.loom(1, 1);
        z.addCone(0, 0, 100);
        z.weave(1);
        Check.due("no rows of the order", Check.word(z, "weave"), false);
    }

    private static void look() {
        JacquardDeck x = loomWithThread();
        Check.due("look without cloth", Check.word(x, "look"), true);
        x.slip(0, 0);
        x.weave(1);
        Check.due("look at a wrong row", Check.word(x, "look"), true);
        Check.due("nothing done", x.entries(), 1);
        Check.due("no order", Check.word(new JacquardDeck(), "look"), false);
    }

    private static void back() {
        JacquardDeck x = loomWithThread();
        Check.due("no row", Check.word(x, "back"), false);
        x.weave(3);
        Check.due("back", Check.word(x, "back"), true);
        Check.due("one row less", x.woven(), 2);
        Check.due("unwoven", x.unwoven(), 1);
        Check.due("worn thread", x.wearOfThread(0, 0), 1);
        Check.due("no order", Check.word(new JacquardDeck(), "back"), false);
    }

    private static void mend() {
        JacquardDeck x = loomWithThread();
        Check.due("mend without cloth", Check.word(x, "mend"), true);
        x.weave(2);
        x.slip(0, 0);
        x.weave(2);
        Check.due("mend", Check.word(x, "mend"), true);
        Check.due("rows that are right", x.woven(), 2);
        Check.due("no order", Check.word(new JacquardDeck(), "mend"), false);
    }

    private static void cut() {
        JacquardDeck x = Check.loom(1, 2);
        x.addCone(0, 0, 100);
        x.weave(1);
        Check.due("too few rows", Check.word(x, "cut"), false);
        Check.due("nothing done", x.stateOf(0), 'l');
        x.weave(1);
        Check.due("cut", Check.word(x, "cut"), true);
        Check.due("sold", x.stateOf(0), 's');
        Check.due("no order", Check.word(x, "cut"), false);
    }
}
