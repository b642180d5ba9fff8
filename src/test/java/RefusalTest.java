import java.util.ArrayList;
import java.util.HashSet;
import java.util.List;
import java.util.NoSuchElementException;
import java.util.Set;

/**
 * A method that throws an exception changes nothing: one long run of calls is made again and again,
 * with one refused call more at each place in it, and all its other answers must stay as they were.
 * The same holds for what only asks, and for what could not be done.
 */
final class RefusalTest {
    private static final Class<IndexOutOfBoundsException> INDEX = IndexOutOfBoundsException.class;
    private static final Class<IllegalArgumentException> ARGUMENT = IllegalArgumentException.class;
    private static final Class<IllegalStateException> STATE = IllegalStateException.class;
    private static final Class<UnsupportedOperationException> UNSUPPORTED = UnsupportedOperationException.class;
    private static final Class<NoSuchElementException> ELEMENT = NoSuchElementException.class;

    interface Call {
        Object on(JacquardDeck x);
    }

    private static final List<Call> RUN = new ArrayList<>();
    private static final List<String> ANSWERS = new ArrayList<>();

    public static void main(String[] args) {
        makeRun();
        Check.due("the run keeps to 512 calls, with room for a few more", RUN.size() <= 500, true);
        JacquardDeck x = new JacquardDeck();
        for (Call call : RUN) {
            ANSWERS.add(answer(call, x));
        }
        paperRefuses();
        threadsRefuse();
        ordersRefuse();
        faultsRefuse();
        wordsAndFiguresRefuse();
        whatCannotBeDone();
        asking();
        Check.end();
    }

    private static String answer(Call call, JacquardDeck x) {
        try {
            return String.valueOf(call.on(x));
        } catch (RuntimeException e) {
            return e.getClass().getName();
        }
    }

    /** Makes the run up to this place. */
    private static JacquardDeck loomAt(int place) {
        JacquardDeck x = new JacquardDeck();
        for (int done = 0; done < place; done++) {
            answer(RUN.get(done), x);
        }
        return x;
    }

    private static void dueAsBefore(String name, JacquardDeck x, int place) {
        for (int next = place; next < RUN.size(); next++) {
            String got = answer(RUN.get(next), x);
            if (!got.equals(ANSWERS.get(next))) {
                Check.tell(name + " ahead of call " + place + " changed call " + next + " to " + got
                        + " from " + ANSWERS.get(next));
                return;
            }
        }
    }

    /** Wherever the call is refused, nothing is changed; and it is refused somewhere with each of these. */
    private static void refused(String name, Call call, Class<?>... exceptions) {
        Set<String> due = new HashSet<>();
        for (Class<?> exception : exceptions) {
            due.add(exception.getName());
        }
        Set<String> seen = new HashSet<>();
        for (int place = 0; place <= RUN.size(); place++) {
            JacquardDeck x = loomAt(place);
            try {
                call.on(x);
                continue;
            } catch (RuntimeException e) {
                seen.add(e.getClass().getName());
            }
            dueAsBefore(name, x, place);
        }
        if (!seen.equals(due)) {
            Check.tell(name + " was refused with " + seen + ", due is " + due);
        }
    }

    /** Wherever the call answers this, nothing is changed; and it answers this somewhere. */
    private static void idle(String name, Call call, Object answer) {
        int times = 0;
        for (int place = 0; place <= RUN.size(); place++) {
            JacquardDeck x = loomAt(place);
            if (answer(call, x).equals(String.valueOf(answer))) {
                times++;
                dueAsBefore(name, x, place);
            }
        }
        Check.due(name + " was idle somewhere", times > 0, true);
    }

    // ---- the run ----

    private static void makeRun() {
        begun();
        wovenAndMended();
        cutAndSecond();
        filled();
        asked();
        foundInThePatterns();
    }

    private static void begun() {
        RUN.add(x -> x.addCone(0, 1, 60));
        RUN.add(x -> x.addPattern(3));
        RUN.add(x -> x.setRow(0, 0, 5, 0, 5));
        RUN.add(x -> x.setRow(0, 1, 9, 1, 3));
        RUN.add(x -> x.compile(0));
        RUN.add(x -> x.addOrder(0, 7));
        RUN.add(x -> x.addPattern(2));
        RUN.add(x -> x.setRow(1, 0, 5, 0, 5));
        RUN.add(x -> x.setRow(1, 1, 9, 1, 3));
        RUN.add(x -> x.addOrder(1, 5));
        RUN.add(x -> x.begin(0));
        RUN.add(x -> x.addCone(0, 2, 3));
        RUN.add(x -> x.addCone(0, 3, 400));
        RUN.add(x -> x.addCone(1, 4, 300));
    }

    private static void wovenAndMended() {
        RUN.add(x -> x.type('w'));
        RUN.add(x -> x.weave(4));
        RUN.add(x -> x.look(60));
        RUN.add(x -> x.type('e'));
        RUN.add(x -> x.type('a'));
        RUN.add(x -> x.slip(0, 2));
        RUN.add(x -> x.weave(2));
        RUN.add(x -> x.look(3));
        RUN.add(x -> x.type('v'));
        RUN.add(x -> x.rightShare());
        RUN.add(x -> x.type('e'));
        RUN.add(x -> x.recover());
        RUN.add(x -> x.doWord());
        RUN.add(x -> x.unweave(1));
        RUN.add(x -> x.weave(3));
        RUN.add(x -> x.unweave(0));
        RUN.add(x -> x.weave(60));
        RUN.add(x -> x.unweave(2));
        RUN.add(x -> x.punch(0));
        RUN.add(x -> x.setRow(0, 2, 7, 0, 9));
        RUN.add(x -> x.weave(1));
        RUN.add(x -> x.compile(0));
        RUN.add(x -> x.weave(60));
    }

    private static void cutAndSecond() {
        RUN.add(x -> x.cut());
        RUN.add(x -> x.entries());
        RUN.add(x -> x.addOrder(0, 2));
        RUN.add(x -> x.begin(2));
        RUN.add(x -> x.slip(1, 15));
        RUN.add(x -> x.weave(2));
        RUN.add(x -> x.cut());
        RUN.add(x -> x.setRow(1, 0, 1, 0, 5));
        RUN.add(x -> x.compile(1));
        RUN.add(x -> x.addOrder(1, 9));
        RUN.add(x -> x.begin(3));
        RUN.add(x -> x.weave(1));
    }

    private static void filled() {
        for (int pattern = 2; pattern < 6; pattern++) {
            int p = pattern;
            RUN.add(x -> x.addPattern(24));
            for (int row = 0; row < 24; row++) {
                int r = row;
                RUN.add(x -> x.setRow(p, r, 100 * p + r, p % 4, 1 + r % 9));
            }
            RUN.add(x -> x.compile(p));
        }
        for (int cone = 0; cone < 12; cone++) {
            int c = cone;
            RUN.add(x -> x.addCone(2, 50 + c, 7));
        }
        for (int order = 4; order < 8; order++) {
            int o = order;
            RUN.add(x -> x.addOrder(o - 2, 60));
        }
        for (int letter = 0; letter < 20; letter++) {
            int l = letter;
            RUN.add(x -> x.type((char) ('a' + l)));
        }
        RUN.add(x -> x.doWord());
    }

    private static void asked() {
        for (int order = 0; order < 8; order++) {
            int o = order;
            RUN.add(x -> x.stateOf(o));
            RUN.add(x -> x.rightRows(o));
            RUN.add(x -> x.shared(o, 7 - o));
        }
        for (int colour = 0; colour < 4; colour++) {
            int c = colour;
            RUN.add(x -> x.stock(c));
            RUN.add(x -> x.threads(c));
            RUN.add(x -> x.thrownAway(c));
            RUN.add(x -> x.wearOfThread(c, 0));
            RUN.add(x -> x.lotOfThread(c, 1));
        }
        for (int card = 0; card < 6; card++) {
            int c = card;
            RUN.add(x -> x.readsAs(c));
            RUN.add(x -> x.wear(c));
        }
        RUN.add(x -> x.cards());
        RUN.add(x -> x.knots());
        RUN.add(x -> x.woven());
        RUN.add(x -> x.lots());
        RUN.add(x -> x.entries());
        RUN.add(x -> x.unwoven());
        RUN.add(x -> x.hooksOf(0));
        RUN.add(x -> x.colourOf(0));
        RUN.add(x -> x.hookAt(0, 0));
        RUN.add(x -> x.rightShare());
        RUN.add(x -> x.meanWear());
        RUN.add(x -> x.isSound());
    }

    private static void foundInThePatterns() {
        for (int pattern = 0; pattern < 6; pattern++) {
            int p = pattern;
            int rows = pattern == 0 ? 3 : pattern == 1 ? 2 : 24;
            for (int row = 0; row < rows; row += p < 2 ? 1 : 4) {
                int r = row;
                RUN.add(x -> x.cardOf(p, r));
                RUN.add(x -> x.setRow(p, r, 0, 0, 5));
            }
        }
    }

    // ---- what is refused ----

    private static void paperRefuses() {
        refused("addPattern(0)", x -> x.addPattern(0), ARGUMENT);
        refused("addPattern(25)", x -> x.addPattern(25), ARGUMENT);
        refused("addPattern(1)", x -> x.addPattern(1), STATE);
        refused("setRow of no pattern", x -> x.setRow(6, 0, 8, 2, 2), INDEX);
        refused("setRow of no row", x -> x.setRow(0, 3, 8, 2, 2), INDEX);
        refused("setRow hooks", x -> x.setRow(0, 0, 65536, 2, 2), INDEX, ARGUMENT);
        refused("setRow colour", x -> x.setRow(0, 0, 8, 4, 2), INDEX, ARGUMENT);
        refused("setRow tension", x -> x.setRow(0, 0, 8, 2, 10), INDEX, ARGUMENT);
        refused("compile(-1)", x -> x.compile(-1), INDEX);
        refused("compile(5)", x -> x.compile(5), INDEX, STATE);
        refused("cardOf of no row", x -> x.cardOf(0, 3), INDEX);
        refused("cardOf(0, 2)", x -> x.cardOf(0, 2), INDEX, ELEMENT);
        refused("readsAs(100)", x -> x.readsAs(100), INDEX);
        refused("wear(100)", x -> x.wear(100), INDEX);
        refused("slip of no card", x -> x.slip(100, 0), INDEX);
        refused("slip of no hook", x -> x.slip(0, 16), INDEX, ARGUMENT);
        refused("punch(-1)", x -> x.punch(-1), INDEX);
        refused("shared(8, 0)", x -> x.shared(8, 0), INDEX);
        refused("shared(0, -1)", x -> x.shared(0, -1), INDEX);
    }

    private static void threadsRefuse() {
        refused("addCone colour", x -> x.addCone(4, 0, 1), ARGUMENT);
        refused("addCone lot", x -> x.addCone(0, 100, 1), ARGUMENT);
        refused("addCone length 0", x -> x.addCone(0, 0, 0), ARGUMENT);
        refused("addCone length 2001", x -> x.addCone(2, 0, 2001), ARGUMENT);
        refused("addCone of twelve", x -> x.addCone(2, 0, 1), STATE);
        refused("stock(4)", x -> x.stock(4), ARGUMENT);
        refused("threads(-1)", x -> x.threads(-1), ARGUMENT);
        refused("wearOfThread(4, 0)", x -> x.wearOfThread(4, 0), ARGUMENT);
        refused("wearOfThread(0, -1)", x -> x.wearOfThread(0, -1), INDEX);
        refused("lotOfThread(-1, 0)", x -> x.lotOfThread(-1, 0), ARGUMENT);
        refused("lotOfThread(3, 0)", x -> x.lotOfThread(3, 0), INDEX);
        refused("thrownAway(4)", x -> x.thrownAway(4), ARGUMENT);
    }

    private static void ordersRefuse() {
        refused("addOrder of no pattern", x -> x.addOrder(6, 1), INDEX);
        refused("addOrder of no rows", x -> x.addOrder(0, 0), INDEX, ARGUMENT);
        refused("addOrder of 61 rows", x -> x.addOrder(0, 61), INDEX, ARGUMENT);
        refused("addOrder of eight", x -> x.addOrder(0, 1), INDEX, STATE);
        refused("stateOf(8)", x -> x.stateOf(8), INDEX);
        refused("begin(8)", x -> x.begin(8), INDEX);
        refused("begin(0)", x -> x.begin(0), INDEX, UNSUPPORTED);
        refused("begin(1)", x -> x.begin(1), INDEX, STATE);
        refused("weave(0)", x -> x.weave(0), ARGUMENT);
        refused("weave(61)", x -> x.weave(61), ARGUMENT);
        refused("weave(1)", x -> x.weave(1), STATE);
        refused("hooksOf(60)", x -> x.hooksOf(60), INDEX);
        refused("colourOf(-1)", x -> x.colourOf(-1), INDEX);
        refused("hookAt(60, 0)", x -> x.hookAt(60, 0), INDEX);
        refused("hookAt(0, 16)", x -> x.hookAt(0, 16), INDEX, ARGUMENT);
        refused("rightRows(8)", x -> x.rightRows(8), INDEX);
    }

    private static void faultsRefuse() {
        refused("look(0)", x -> x.look(0), ARGUMENT);
        refused("look(61)", x -> x.look(61), ARGUMENT);
        refused("look(1)", x -> x.look(1), STATE);
        refused("unweave(-1)", x -> x.unweave(-1), INDEX);
        refused("unweave, one more than there are", x -> x.unweave(x.woven() + 1), INDEX);
        refused("recover()", x -> x.recover(), STATE);
        refused("cut()", x -> x.cut(), STATE, UNSUPPORTED);
    }

    private static void wordsAndFiguresRefuse() {
        refused("type('A')", x -> x.type('A'), ARGUMENT);
        refused("type('m')", x -> x.type('m'), STATE);
        refused("rightShare()", x -> x.rightShare(), STATE, ELEMENT);
        refused("meanWear()", x -> x.meanWear(), ELEMENT);
    }

    // ---- what could not be done, and what only asks ----

    /** The answer of a word that is typed where no letters are; these few calls are the room that the run leaves. */
    private static Object wordAmongNone(JacquardDeck x, String word) {
        try {
            if (x.type(word.charAt(0)) != 1) {
                return "letters were there";
            }
        } catch (IllegalStateException e) {
            return "letters were there";
        }
        for (int letter = 1; letter < word.length(); letter++) {
            x.type(word.charAt(letter));
        }
        return x.doWord();
    }

    private static void whatCannotBeDone() {
        idle("weave(60) that weaves none", x -> x.weave(60), 0);
        idle("unweave of none", x -> x.unweave(x.woven()), 0);
        for (String word : new String[] {"weave", "look", "back", "mend", "cut", "other"}) {
            idle("the word " + word, x -> wordAmongNone(x, word), false);
        }
        idle("the word look that is done", x -> wordAmongNone(x, "look"), true);
    }

    private static void asking() {
        idle("isSound", x -> x.isSound(), true);
        for (Call ask : new Call[] {x -> x.cards(), x -> x.knots(), x -> x.woven(), x -> x.lots(), x -> x.entries(),
            x -> x.unwoven(), x -> x.meanWear(), x -> x.rightShare(), x -> x.look(60), x -> x.look(1),
            x -> x.cardOf(0, 1), x -> x.readsAs(0), x -> x.wear(0), x -> x.shared(0, 1), x -> x.stock(0),
            x -> x.threads(0), x -> x.wearOfThread(0, 1), x -> x.lotOfThread(0, 1), x -> x.thrownAway(0),
            x -> x.stateOf(0), x -> x.hooksOf(0), x -> x.colourOf(0), x -> x.hookAt(0, 0), x -> x.rightRows(0)}) {
            for (int place = 0; place <= RUN.size(); place++) {
                JacquardDeck x = loomAt(place);
                answer(ask, x);
                dueAsBefore("asking", x, place);
            }
        }
    }
}
