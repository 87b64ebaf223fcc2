/** What all tests of boundaries share: a test for each sentence, answers that are due, and calls refused. */
abstract class Check {
    static final int NONE = -1;
    static final int FREE = 0;
    static final int OFFERED = 1;
    static final int SWAPPING = 2;
    static final int LENT = 3;

    static final int LEAST = Integer.MIN_VALUE;
    static final int MOST = Integer.MAX_VALUE;

    static final Class<?> INDEX = IndexOutOfBoundsException.class;
    static final Class<?> ARGUMENT = IllegalArgumentException.class;
    static final Class<?> STATE = IllegalStateException.class;

    // The first that there is not, on both sides, and the farthest.
    static final int[] NO_PLAYERS = {-1, 5, LEAST, MOST};
    static final int[] NO_KINDS = {-1, 8, LEAST, MOST};
    static final int[] NO_PRICES = {0, 1001, -1, LEAST, MOST};

    private static String sentence = "";
    private static int sentences = 0;
    private static int answers = 0;
    private static int wrong = 0;
    // More than this many are counted, but not told.
    private static final int MOST_TOLD = 30;

    interface Test {
        void run();
    }

    interface Call {
        void on(Trumpvault x);
    }

    interface World {
        Trumpvault make();
    }

    /** One test for one sentence of the document; a call that throws unasked fails it. */
    static void test(String told, Test test) {
        sentence = told;
        sentences++;
        try {
            test.run();
        } catch (RuntimeException unasked) {
            fail("a call threw " + unasked + " at line " + lineOf(unasked));
        }
    }

    private static int lineOf(RuntimeException thrown) {
        for (StackTraceElement element : thrown.getStackTrace()) {
            if (!element.getClassName().startsWith("Trumpvault")) {
                return element.getLineNumber();
            }
        }
        return 0;
    }

    static void due(String what, long got, long want) {
        answers++;
        if (got != want) {
            fail(what + " answered " + got + ", due is " + want);
        }
    }

    static void due(String what, boolean got, boolean want) {
        answers++;
        if (got != want) {
            fail(what + " answered " + got + ", due is " + want);
        }
    }

    static void dueText(String what, String got, String want) {
        answers++;
        if (!got.equals(want)) {
            fail(what + " answered\n  " + got + ", due is\n  " + want);
        }
    }

    /** The call throws just this, on an object that goes on to be used. */
    static void refused(String what, Class<?> want, Trumpvault x, Call call) {
        answers++;
        Class<?> got = thrownBy(x, call);
        if (got != want) {
            fail(what + " threw " + name(got) + ", due is " + name(want));
        }
    }

    /** The call throws just this, and leaves everything as it was. */
    static void refused(String what, Class<?> want, World world, Call call) {
        refused(what, want, world.make(), call);
        Traces.dueUnchanged(what + ", refused, leaves", world, call);
    }

    static Class<?> thrownBy(Trumpvault x, Call call) {
        try {
            call.on(x);
            return null;
        } catch (RuntimeException thrown) {
            return thrown.getClass();
        }
    }

    private static String name(Class<?> thrown) {
        return thrown == null ? "nothing" : thrown.getSimpleName();
    }

    private static void fail(String what) {
        wrong++;
        if (wrong <= MOST_TOLD) {
            System.out.println(sentence + ": " + what);
        }
    }

    /** Owner, holder and state of a card, and its owner by history. */
    static void dueCard(String what, Trumpvault x, int card, int owner, int holder, int state) {
        due(what + ": owner(" + card + ")", x.owner(card), owner);
        due(what + ": ownerByHistory(" + card + ")", x.ownerByHistory(card), owner);
        due(what + ": holder(" + card + ")", x.holder(card), holder);
        due(what + ": stateOf(" + card + ")", x.stateOf(card), state);
    }

    static void dueFree(String what, Trumpvault x, int card, int owner) {
        dueCard(what, x, card, owner, owner, FREE);
    }

    static void end() {
        System.out.println(sentences + " sentences, " + answers + " answers, " + wrong + " wrong");
        if (wrong > 0) {
            System.exit(1);
        }
    }
}
