import java.util.function.Supplier;

/** All promises at once: long runs of mixed calls, held against the Model call by call. */
final class ModelTest {
    private static final int RUNS = 300;
    private static final int CALLS = 512;
    private static final String[] WORDS = {"weave", "look", "back", "mend", "cut", "weft", ""};

    private final int run;
    private long seed;
    private final JacquardDeck x = new JacquardDeck();
    private final Model model = new Model();
    private int call;
    private boolean differs;

    private ModelTest(int run) {
        this.run = run;
        this.seed = run * 7919L + 17;
    }

    public static void main(String[] args) {
        for (int run = 0; run < RUNS; run++) {
            ModelTest test = new ModelTest(run);
            for (test.call = 0; test.call < CALLS && !test.differs; test.call++) {
                test.makeCall();
                if (test.call % 4 == 0) {
                    test.compareState();
                }
            }
        }
        Check.end();
    }

    /** The same numbers in every run of the test. */
    private int pick(int bound) {
        seed = seed * 6364136223846793005L + 1442695040888963407L;
        return (int) ((seed >>> 33) % bound);
    }

    /** A number from 0 to count - 1, and at times one that is out of range. */
    private int near(int count) {
        int[] far = {-1, count, count + 1, Integer.MIN_VALUE, Integer.MAX_VALUE};
        return count == 0 || pick(40) == 0 ? far[pick(far.length)] : pick(count);
    }

    private void same(String name, Supplier<Object> got, Object want) {
        Object answer;
        try {
            answer = got.get();
        } catch (RuntimeException e) {
            answer = e.getClass().getSimpleName();
        }
        if (!answer.equals(want)) {
            differs = true;
            Check.tell("run " + run + ", call " + call + ": " + name + " answered " + answer + ", due is " + want);
        }
    }

    private void makeCall() {
        int kind = pick(100);
        if (call < 60) {
            kind = pick(45);
        }
        if (kind < 30) {
            paper(kind);
        } else if (kind < 45) {
            cone();
        } else {
            cloth(kind);
        }
    }

    private void paper(int kind) {
        int pattern = near(model.patterns.size());
        if (kind < 3) {
            int rows = run % 3 == 0 ? near(25) : 1 + pick(4);
            same("addPattern", () -> x.addPattern(rows), model.addPattern(rows));
        } else if (kind < 12) {
            int rows = pattern >= 0 && pattern < model.patterns.size() ? model.patterns.get(pattern).size() : 1;
            int row = near(rows);
            int hooks = run % 5 == 4 ? near(65536) : pick(3) * 40000;
            int colour = pick(2) == 0 ? pick(2) : near(4);
            int tension = pick(20) == 0 ? near(10) : 1 + pick(run % 2 == 0 ? 2 : 9);
            same("setRow", () -> x.setRow(pattern, row, hooks, colour, tension),
                    model.setRow(pattern, row, hooks, colour, tension));
        } else if (kind < 20) {
            same("compile", () -> x.compile(pattern), model.compile(pattern));
        } else if (kind < 23) {
            int card = near(model.cards.size());
            int hook = near(16);
            same("slip", () -> x.slip(card, hook), model.slip(card, hook));
        } else if (kind < 25) {
            int card = near(model.cards.size());
            same("punch", () -> x.punch(card), model.punch(card));
        } else {
            int rows = pick(3) == 0 ? near(61) : 1 + pick(20);
            same("addOrder", () -> x.addOrder(pattern, rows), model.addOrder(pattern, rows));
        }
    }

    private void cone() {
        if (call > 60 && pick(4) != 0) {
            return;
        }
        int colour = near(4);
        int lot = near(100);
        int length = pick(8) == 0 ? near(2001) : 1 + pick(run % 2 == 0 ? 60 : 600);
        same("addCone", () -> x.addCone(colour, lot, length), model.addCone(colour, lot, length));
    }

    private void cloth(int kind) {
        if (kind < 52) {
            int order = near(model.orders.size());
            same("begin", () -> x.begin(order), model.begin(order));
        } else if (kind < 68) {
            int rows = pick(3) == 0 ? near(61) : 1 + pick(9);
            same("weave", () -> x.weave(rows), model.weave(rows));
        } else if (kind < 76) {
            int rows = near(model.cloth.size() + 1);
            same("unweave", () -> x.unweave(rows), model.unweave(rows));
        } else if (kind < 80) {
            same("recover", () -> x.recover(), model.recover());
        } else if (kind < 84) {
            same("cut", () -> x.cut(), model.cut());
        } else if (kind < 98) {
            word();
        } else {
            int rows = near(61);
            same("look", () -> x.look(rows), model.look(rows));
        }
    }

    private void word() {
        String word = WORDS[pick(WORDS.length)];
        for (char letter : word.toCharArray()) {
            same("type", () -> x.type(letter), model.type(letter));
        }
        if (pick(10) != 0) {
            same("doWord " + word, () -> x.doWord(), model.doWord());
        }
    }

    private void compareState() {
        comparePaper();
        for (int colour = -1; colour <= 4; colour++) {
            int c = colour;
            same("stock", () -> x.stock(c), model.stock(c));
            same("threads", () -> x.threads(c), model.threads(c));
            same("thrownAway", () -> x.thrownAway(c), model.thrownAway(c));
            int count = c < 0 || c > 3 ? 0 : model.threads.get(c).size();
            for (int index = -1; index <= count; index++) {
                int i = index;
                same("wearOfThread", () -> x.wearOfThread(c, i), model.ofThread(c, i, 2));
                same("lotOfThread", () -> x.lotOfThread(c, i), model.ofThread(c, i, 0));
            }
        }
        compareCloth();
        same("knots", () -> x.knots(), model.knots);
        same("entries", () -> x.entries(), model.entries);
        same("unwoven", () -> x.unwoven(), model.unwoven);
        same("rightShare", () -> x.rightShare(), model.rightShare());
        same("meanWear", () -> x.meanWear(), model.meanWear());
        same("isSound", () -> x.isSound(), true);
    }

    private void comparePaper() {
        for (int pattern = -1; pattern <= model.patterns.size(); pattern++) {
            int p = pattern;
            for (int row = -1; row <= 24; row++) {
                int r = row;
                same("cardOf", () -> x.cardOf(p, r), model.cardOf(p, r));
            }
        }
        same("cards", () -> x.cards(), model.cards.size());
        for (int card = -1; card <= model.cards.size(); card++) {
            int c = card;
            same("readsAs", () -> x.readsAs(c), model.readsAs(c));
            same("wear", () -> x.wear(c), model.wear(c));
        }
    }

    private void compareCloth() {
        for (int order = -1; order <= model.orders.size(); order++) {
            int o = order;
            same("stateOf", () -> x.stateOf(o), model.stateOf(o));
            same("rightRows", () -> x.rightRows(o), model.rightRows(o));
            int other = near(model.orders.size());
            same("shared", () -> x.shared(o, other), model.shared(o, other));
        }
        same("woven", () -> x.woven(), model.cloth.size());
        same("lots", () -> x.lots(), model.lots());
        for (int index = -1; index <= model.cloth.size(); index++) {
            int i = index;
            int hook = near(16);
            same("hooksOf", () -> x.hooksOf(i), model.hooksOf(i));
            same("colourOf", () -> x.colourOf(i), model.colourOf(i));
            same("hookAt", () -> x.hookAt(i, hook), model.hookAt(i, hook));
        }
        same("look", () -> x.look(60), model.look(60));
    }
}
