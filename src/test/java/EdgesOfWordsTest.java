/** Each boundary that the document names for words: promises 35 and 36. */
final class EdgesOfWordsTest {
    public static void main(String[] args) {
        lettersFromAToZ();
        twentyLetters();
        letterByLetter();
        noLetters();
        otherWords();
        lettersAreGone();
        weaveOneRow();
        weaveWithoutOrder();
        weaveWithoutCardThreadOrRow();
        lookChangesNothing();
        backWithNoRow();
        backOneRow();
        mendWithAndWithoutAnOrder();
        cutIfItCanBeDone();
        Check.end();
    }

    private static void lettersFromAToZ() {
        JacquardDeck x = new JacquardDeck();
        Check.throwing("the sign before a", IllegalArgumentException.class, () -> x.type((char) ('a' - 1)));
        Check.throwing("the sign behind z", IllegalArgumentException.class, () -> x.type((char) ('z' + 1)));
        Check.throwing("Z", IllegalArgumentException.class, () -> x.type('Z'));
        Check.throwing("the least sign", IllegalArgumentException.class, () -> x.type((char) 0));
        Check.throwing("the greatest sign", IllegalArgumentException.class, () -> x.type((char) 65535));
        Check.throwing("a sign like a, 256 more", IllegalArgumentException.class, () -> x.type((char) ('a' + 256)));
        Check.due("a", x.type('a'), 1);
        Check.due("z", x.type('z'), 2);
        x.doWord();
        for (int letter = 'a'; letter <= 't'; letter++) {
            Check.due("a to t", x.type((char) letter), letter - 'a' + 1);
        }
        x.doWord();
        for (int letter = 'u'; letter <= 'z'; letter++) {
            Check.due("u to z", x.type((char) letter), letter - 'u' + 1);
        }
    }

    private static void twentyLetters() {
        JacquardDeck x = new JacquardDeck();
        for (int time = 0; time < 2; time++) {
            for (int count = 1; count <= 20; count++) {
                Check.due("letter " + count, x.type('q'), count);
            }
            Check.throwing("a 21st", IllegalStateException.class, () -> x.type('q'));
            Check.throwing("a 21st again", IllegalStateException.class, () -> x.type('a'));
            Check.due("20 letters are no word", x.doWord(), false);
        }
        Check.due("then there is room", x.type('q'), 1);
    }

    private static void letterByLetter() {
        JacquardDeck x = Check.loom(1, 60);
        x.addCone(0, 0, 100);
        x.type('w');
        x.type('e');
        x.type('a');
        x.stock(0);
        x.weave(1);
        x.type('v');
        Check.due("other calls between do no harm", x.type('e'), 5);
        Check.due("nothing is done ahead of doWord", x.woven(), 1);
        Check.due("done", x.doWord(), true);
        Check.due("then it is", x.woven(), 2);
    }

    private static void noLetters() {
        JacquardDeck x = Check.loom(1, 60);
        x.addCone(0, 0, 100);
        x.weave(1);
        Check.due("no letters are no word", x.doWord(), false);
        Check.due("nothing is done", x.entries(), 1);
        Check.word(x, "weave");
        Check.due("nor is the word before done again", x.doWord(), false);
        Check.due("nothing more is done", x.entries(), 2);
    }

    private static void otherWords() {
        JacquardDeck x = Check.loom(1, 1);
        x.addCone(0, 0, 100);
        x.weave(1);
        for (String word : new String[] {"w", "weav", "eave", "weavew", "weaveweave", "loom", "loo", "lookl", "bac",
                "ack", "backk", "men", "end", "mendd", "cu", "ut", "cutt", "cutcut", "kcab", "evaew", "begin"}) {
            Check.due("other word " + word, Check.word(x, word), false);
            Check.due("nothing is woven or unwoven", x.entries(), 1);
            Check.due("nor cut", x.stateOf(0), 'l');
        }
    }

    private static void lettersAreGone() {
        JacquardDeck x = Check.loom(1, 2);
        x.addCone(0, 0, 100);
        for (String word : new String[] {"weave", "look", "back", "mend", "cut", "other", "weave", "weave", "cut",
                "weave", "look", "back", "mend", "cut", "other"}) {
            Check.word(x, word);
            Check.due("letters are gone behind " + word, x.type('x'), 1);
            x.doWord();
        }
        Check.due("cut at last", x.stateOf(0), 's');
    }

    private static void weaveOneRow() {
        JacquardDeck x = Check.loom(1, 2);
        x.addCone(0, 0, 100);
        Check.due("weave", Check.word(x, "weave"), true);
        Check.due("just one", x.woven(), 1);
        Check.due("it wears the card", x.wear(0), 1);
        Check.due("it uses thread", x.stock(0), 75);
        Check.due("weave", Check.word(x, "weave"), true);
        Check.due("the order has no more", Check.word(x, "weave"), false);
        Check.due("two", x.woven(), 2);
    }

    private static void weaveWithoutOrder() {
        JacquardDeck x = new JacquardDeck();
        Check.due("nothing is there", Check.word(x, "weave"), false);
        x.addPattern(1);
        x.compile(0);
        x.addCone(0, 0, 100);
        x.addOrder(0, 1);
        Check.due("the order waits", Check.word(x, "weave"), false);
        x.begin(0);
        Check.due("it is on the loom", Check.word(x, "weave"), true);
        x.cut();
        Check.due("it was cut", Check.word(x, "weave"), false);
    }

    private static void weaveWithoutCardThreadOrRow() {
        JacquardDeck x = new JacquardDeck();
        x.addPattern(1);
        x.addOrder(0, 1);
        x.begin(0);
        x.addCone(0, 0, 24);
        Check.due("no card", Check.word(x, "weave"), false);
        x.compile(0);
        Check.due("24 of 25", Check.word(x, "weave"), false);
        x.addCone(0, 0, 4);
        Check.due("24 and 1 of 4", Check.word(x, "weave"), true);
        x.addCone(0, 0, 100);
        Check.due("no row", Check.word(x, "weave"), false);
        Check.due("one row in all", x.entries(), 1);
    }

    private static void lookChangesNothing() {
        JacquardDeck x = new JacquardDeck();
        Check.due("nothing is there", Check.word(x, "look"), false);
        x.addPattern(1);
        x.compile(0);
        x.addCone(0, 0, 1000);
        x.addOrder(0, 10);
        Check.due("the order waits", Check.word(x, "look"), false);
        x.begin(0);
        Check.due("it is on the loom, with no rows", Check.word(x, "look"), true);
        x.slip(0, 0);
        x.weave(1);
        x.slip(0, 0);
        Check.due("with 1 row", Check.word(x, "look"), true);
        x.weave(7);
        Check.due("with 8 rows", Check.word(x, "look"), true);
        x.weave(2);
        Check.due("with 10 rows", Check.word(x, "look"), true);
        Check.due("nothing is unwoven", x.entries(), 10);
        x.cut();
        Check.due("it was cut", Check.word(x, "look"), false);
    }

    private static void backWithNoRow() {
        JacquardDeck x = new JacquardDeck();
        Check.due("nothing is there", Check.word(x, "back"), false);
        JacquardDeck y = Check.loom(1, 1);
        y.addCone(0, 0, 100);
        Check.due("no row", Check.word(y, "back"), false);
        y.weave(1);
        y.cut();
        Check.due("the row was cut", Check.word(y, "back"), false);
        Check.due("nothing is unwoven", y.unwoven(), 0);
        Check.due("no entry", y.entries(), 0);
    }

    private static void backOneRow() {
        JacquardDeck x = Check.loom(1, 60);
        x.addCone(0, 0, 100);
        x.weave(2);
        Check.due("one of two", Check.word(x, "back"), true);
        Check.due("one is left", x.woven(), 1);
        Check.due("the last one", Check.word(x, "back"), true);
        Check.due("none is left", x.woven(), 0);
        Check.due("no more", Check.word(x, "back"), false);
        Check.due("unwoven", x.unwoven(), 2);
        Check.due("entries", x.entries(), 4);
        Check.dueThreads("as unweaving does", x, 0, "0:1 0:1 0:0");
    }

    private static void mendWithAndWithoutAnOrder() {
        JacquardDeck x = new JacquardDeck();
        Check.due("nothing is there", Check.word(x, "mend"), false);
        x.addPattern(1);
        x.compile(0);
        x.addPattern(2);
        x.setRow(1, 1, 1, 0, 5);
        x.addCone(0, 0, 1000);
        x.addOrder(0, 4);
        x.addOrder(1, 2);
        Check.due("orders wait", Check.word(x, "mend"), false);
        x.begin(0);
        Check.due("no rows", Check.word(x, "mend"), true);
        x.weave(1);
        Check.due("nothing wrong", Check.word(x, "mend"), true);
        Check.due("nothing unwoven", x.woven(), 1);
        x.slip(0, 0);
        x.weave(3);
        Check.due("right for the other", Check.word(x, "mend"), true);
        Check.due("down to its rows", x.woven(), 2);
        Check.due("it took the loom", x.stateOf(1), 'l');
        Check.due("the first waits", x.stateOf(0), 'w');
        x.cut();
        Check.due("the loom is empty", Check.word(x, "mend"), false);
    }

    private static void cutIfItCanBeDone() {
        JacquardDeck x = new JacquardDeck();
        Check.due("nothing is there", Check.word(x, "cut"), false);
        x.addPattern(1);
        x.compile(0);
        x.addCone(0, 0, 1000);
        x.addOrder(0, 2);
        x.addOrder(0, 2);
        Check.due("orders wait", Check.word(x, "cut"), false);
        x.begin(0);
        Check.due("no rows of 2", Check.word(x, "cut"), false);
        x.weave(1);
        Check.due("1 row of 2", Check.word(x, "cut"), false);
        x.weave(1);
        Check.due("2 rows of 2", Check.word(x, "cut"), true);
        Check.due("sold", x.stateOf(0), 's');
        Check.due("no entries", x.entries(), 0);
        Check.due("again", Check.word(x, "cut"), false);
        x.begin(1);
        x.slip(0, 0);
        x.weave(2);
        Check.due("wrong rows can be cut too", Check.word(x, "cut"), true);
        Check.due("a second", x.stateOf(1), 'b');
    }
}
