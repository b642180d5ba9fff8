import java.util.function.Supplier;

/**
 * All promises at once: runs of mixed calls, held against the Model call by call. What an object answers
 * behind its 512th call is free, so a run ends there: most of it changes the loom and asks one thing at
 * a time, and with the calls that are left all is asked that can be.
 */
final class ModelTest {
    private static final int RUNS = 3000;
    private static final int CALLS = 512;
    private static final int CALLS_THAT_CHANGE = 380;
    private static final String[] WORDS = {"weave", "look", "back", "mend", "cut", "weft", ""};
    private static final char[] LETTERS = {'a', 'z', 'a' - 1, 'z' + 1, 'A', 0, 'w' + 256, 65535};

    private final int run;
    private final boolean manyCards;
    private long seed;
    private final JacquardDeck x = new JacquardDeck();
    private final Model model = new Model();
    private int call;
    private boolean differs;

    private ModelTest(int run) {
        this.run = run;
        this.manyCards = run % 7 == 6;
        this.seed = run * 7919L + 17;
    }

    public static void main(String[] args) {
        int different = 0;
        for (int run = 0; run < RUNS && different < 5; run++) {
            ModelTest test = new ModelTest(run);
            test.begin();
            for (int turn = 0; turn < CALLS && test.call < CALLS_THAT_CHANGE && !test.differs; turn++) {
                test.makeCall(turn);
                test.askOne();
            }
            test.compareState();
            different += test.differs ? 1 : 0;
        }
        Check.end();
    }

    /** The same numbers in every run of the test. */
    private int pick(int bound) {
        seed = seed * 6364136223846793005L + 1442695040888963407L;
        return (int) ((seed >>> 33) % bound);
    }

    /** A number from 0 to count - 1, and at times one that is out of range. */
    private int near(int count) {
        int[] far = {-1, count, count + 1, Integer.MIN_VALUE, Integer.MAX_VALUE};
        return count == 0 || pick(40) == 0 ? far[pick(far.length)] : pick(count);
    }

    private void same(String name, Supplier<Object> got, Object want) {
        if (call >= CALLS || differs) {
            return;
        }
        call++;
        Object answer;
        try {
            answer = got.get();
        } catch (RuntimeException e) {
            answer = e.getClass().getSimpleName();
        }
        if (!answer.equals(want)) {
            differs = true;
            Check.tell("run " + run + ", call " + call + ": " + name + " answered " + answer + ", due is " + want);
        }
    }

    /** Some runs begin with 96 cards, so that they come to the hundred that there can be. */
    private void begin() {
        for (int pattern = 0; manyCards && pattern < 4; pattern++) {
            int p = pattern;
            same("addPattern", () -> x.addPattern(24), model.addPattern(24));
            for (int row = 0; row < 24; row++) {
                int r = row;
                int hooks = 24 * p + r;
                same("setRow", () -> x.setRow(p, r, hooks, r % 2, 9), model.setRow(p, r, hooks, r % 2, 9));
            }
            same("compile", () -> x.compile(p), model.compile(p));
        }
    }

    private void makeCall(int turn) {
        int kind = pick(turn < 60 ? 45 : 100);
        if (kind < 30) {
            paper(kind);
        } else if (kind < 45) {
            cone(turn);
        } else {
            cloth(kind);
        }
    }

    private void paper(int kind) {
        int pattern = near(model.patterns.size());
        if (kind < 3) {
            int rows = run % 3 == 0 ? near(25) : 1 + pick(4);
            same("addPattern", () -> x.addPattern(rows), model.addPattern(rows));
        } else if (kind < 12) {
            int rows = pattern >= 0 && pattern < model.patterns.size() ? model.patterns.get(pattern).size() : 1;
            int row = near(rows);
            int hooks = manyCards || run % 5 == 4 ? near(65536) : pick(3) * 40000;
            int colour = pick(2) == 0 ? pick(2) : near(4);
            int tension = pick(20) == 0 ? near(10) : 1 + pick(run % 2 == 0 ? 2 : 9);
            same("setRow", () -> x.setRow(pattern, row, hooks, colour, tension),
                    model.setRow(pattern, row, hooks, colour, tension));
        } else if (kind < 20) {
            same("compile", () -> x.compile(pattern), model.compile(pattern));
        } else if (kind < 23) {
            int card = near(model.cards.size());
            int hook = near(16);
            same("slip", () -> x.slip(card, hook), model.slip(card, hook));
        } else if (kind < 25) {
            int card = near(model.cards.size());
            same("punch", () -> x.punch(card), model.punch(card));
        } else {
            int rows = pick(3) == 0 ? near(61) : 1 + pick(20);
            same("addOrder", () -> x.addOrder(pattern, rows), model.addOrder(pattern, rows));
        }
    }

    private void cone(int turn) {
        if (turn > 60 && pick(4) != 0) {
            return;
        }
        int colour = near(4);
        int lot = near(100);
        int length = pick(8) == 0 ? near(2001) : 1 + pick(run % 2 == 0 ? 60 : 600);
        same("addCone", () -> x.addCone(colour, lot, length), model.addCone(colour, lot, length));
    }

    private void cloth(int kind) {
        if (kind < 52) {
            int order = near(model.orders.size());
            same("begin", () -> x.begin(order), model.begin(order));
        } else if (kind < 68) {
            int rows = pick(3) == 0 ? near(61) : 1 + pick(9);
            same("weave", () -> x.weave(rows), model.weave(rows));
        } else if (kind < 76) {
            int rows = near(model.cloth.size() + 1);
            same("unweave", () -> x.unweave(rows), model.unweave(rows));
        } else if (kind < 80) {
            same("recover", () -> x.recover(), model.recover());
        } else if (kind < 84) {
            same("cut", () -> x.cut(), model.cut());
        } else if (kind < 98) {
            word();
        } else {
            int rows = near(61);
            same("look", () -> x.look(rows), model.look(rows));
        }
    }

    private void word() {
        if (pick(8) == 0) {
            char letter = LETTERS[pick(LETTERS.length)];
            same("type " + (int) letter, () -> x.type(letter), model.type(letter));
        }
        String word = WORDS[pick(WORDS.length)];
        for (char letter : word.toCharArray()) {
            same("type", () -> x.type(letter), model.type(letter));
        }
        if (pick(run % 4 == 1 ? 2 : 10) != 0) {
            same("doWord " + word, () -> x.doWord(), model.doWord());
        }
    }

    private void askOne() {
        int what = pick(12);
        int colour = near(4);
        int row = near(model.cloth.size());
        if (what == 0) {
            compareThreads(colour);
        } else if (what == 1) {
            compareRow(row);
        } else if (what == 2) {
            compareOrder(near(model.orders.size()));
        } else if (what == 3) {
            compareCard(near(model.cards.size()));
        } else if (what == 4) {
            compareFigures();
        } else if (what == 5) {
            same("look", () -> x.look(60), model.look(60));
        }
    }

    /** Paper, threads and cloth begin in turn, because the calls that are left may not do for all. */
    private void compareState() {
        compareFigures();
        for (int part = 0; part < 3; part++) {
            if ((run + part) % 3 == 0) {
                comparePaper();
            } else if ((run + part) % 3 == 1) {
                for (int colour = 0; colour < 4; colour++) {
                    compareThreads(colour);
                }
            } else {
                compareCloth();
            }
        }
    }

    private void compareFigures() {
        same("cards", () -> x.cards(), model.cards.size());
        same("knots", () -> x.knots(), model.knots);
        same("woven", () -> x.woven(), model.cloth.size());
        same("lots", () -> x.lots(), model.lots());
        same("entries", () -> x.entries(), model.entries);
        same("unwoven", () -> x.unwoven(), model.unwoven);
        same("rightShare", () -> x.rightShare(), model.rightShare());
        same("meanWear", () -> x.meanWear(), model.meanWear());
        same("isSound", () -> x.isSound(), true);
    }

    private void compareThreads(int colour) {
        same("stock", () -> x.stock(colour), model.stock(colour));
        same("threads", () -> x.threads(colour), model.threads(colour));
        same("thrownAway", () -> x.thrownAway(colour), model.thrownAway(colour));
        int count = colour < 0 || colour > 3 ? 0 : model.threads.get(colour).size();
        for (int index = 0; index <= count; index += 1 + count / 8) {
            int i = index;
            same("wearOfThread", () -> x.wearOfThread(colour, i), model.ofThread(colour, i, 2));
            same("lotOfThread", () -> x.lotOfThread(colour, i), model.ofThread(colour, i, 0));
        }
    }

    private void compareRow(int index) {
        int hook = near(16);
        same("hooksOf", () -> x.hooksOf(index), model.hooksOf(index));
        same("colourOf", () -> x.colourOf(index), model.colourOf(index));
        same("hookAt", () -> x.hookAt(index, hook), model.hookAt(index, hook));
    }

    private void compareOrder(int order) {
        int other = near(model.orders.size());
        same("stateOf", () -> x.stateOf(order), model.stateOf(order));
        same("rightRows", () -> x.rightRows(order), model.rightRows(order));
        same("shared", () -> x.shared(order, other), model.shared(order, other));
    }

    private void compareCard(int card) {
        same("readsAs", () -> x.readsAs(card), model.readsAs(card));
        same("wear", () -> x.wear(card), model.wear(card));
    }

    private void comparePaper() {
        for (int pattern = 0; pattern < model.patterns.size(); pattern++) {
            int p = pattern;
            for (int row = 0; row < model.patterns.get(p).size(); row++) {
                int r = row;
                same("cardOf", () -> x.cardOf(p, r), model.cardOf(p, r));
            }
        }
        for (int card = 0; card < model.cards.size(); card++) {
            compareCard(card);
        }
    }

    private void compareCloth() {
        for (int order = 0; order < model.orders.size(); order++) {
            compareOrder(order);
        }
        for (int index = 0; index < model.cloth.size(); index++) {
            compareRow(index);
        }
    }
}
