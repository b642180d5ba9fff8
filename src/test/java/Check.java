/** What the tests share: each answer that is not due is printed and counted. */
final class Check {
    private static int wrong = 0;

    private Check() {
    }

    interface Call {
        void run();
    }

    static void due(String call, long got, long want) {
        if (got != want) {
            tell(call + " answered " + got + ", due is " + want);
        }
    }

    static void due(String call, boolean got, boolean want) {
        if (got != want) {
            tell(call + " answered " + got + ", due is " + want);
        }
    }

    static void due(String call, char got, char want) {
        if (got != want) {
            tell(call + " answered " + got + ", due is " + want);
        }
    }

    static void due(String call, double got, double want) {
        if (got != want) {
            tell(call + " answered " + got + ", due is " + want);
        }
    }

    /** The call must throw just this class, not one below it, such as what the machine throws. */
    static void throwing(String call, Class<? extends RuntimeException> want, Call run) {
        try {
            run.run();
        } catch (RuntimeException e) {
            if (e.getClass() != want) {
                tell(call + " threw " + e.getClass().getName() + ", due is " + want.getName());
            }
            return;
        }
        tell(call + " threw nothing, due is " + want.getName());
    }

    static void tell(String text) {
        wrong++;
        System.out.println(text);
    }

    static void end() {
        System.out.println(wrong == 0 ? "all answers are as due" : wrong + " answers are not as due");
        if (wrong != 0) {
            System.exit(1);
        }
    }

    /** A loom with one pattern of so many plain rows, compiled, and an order of it on the loom. */
    static JacquardDeck loom(int patternRows, int orderRows) {
        JacquardDeck x = new JacquardDeck();
        x.addPattern(patternRows);
        x.compile(0);
        x.addOrder(0, orderRows);
        x.begin(0);
        return x;
    }

    /** A loom with one pattern of one row as told, compiled, and an order of 60 rows of it on the loom. */
    static JacquardDeck loomFor(int hooks, int colour, int tension) {
        JacquardDeck x = new JacquardDeck();
        x.addPattern(1);
        x.setRow(0, 0, hooks, colour, tension);
        x.compile(0);
        x.addOrder(0, 60);
        x.begin(0);
        return x;
    }

    /** The threads of a colour from the front on, each as lot:wear. */
    static void dueThreads(String when, JacquardDeck x, int colour, String want) {
        StringBuilder got = new StringBuilder();
        for (int index = 0; index < x.threads(colour); index++) {
            got.append(index == 0 ? "" : " ").append(x.lotOfThread(colour, index));
            got.append(':').append(x.wearOfThread(colour, index));
        }
        if (!got.toString().equals(want)) {
            tell(when + ": threads of colour " + colour + " are " + got + ", due is " + want);
        }
    }

    static boolean word(JacquardDeck x, String word) {
        for (char letter : word.toCharArray()) {
            x.type(letter);
        }
        return x.doWord();
    }
}
