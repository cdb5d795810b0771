import java.util.ArrayList;
import java.util.List;

/** What the tests of the boundaries share: a test for a sentence of the document, what is due, and what is refused. */
final class Boundary {
    static final String INDEX = "throws IndexOutOfBoundsException";
    static final String ARGUMENT = "throws IllegalArgumentException";
    static final String STATE = "throws IllegalStateException";

    /** The sentences before the first promise stand under this number. */
    static final int TERMS = 0;

    private static final int[] FAR = {Integer.MIN_VALUE, Integer.MAX_VALUE};

    interface Maker {
        SighTreaties make();
    }

    interface Call {
        Object on(SighTreaties x);
    }

    interface Order {
        void on(SighTreaties x);
    }

    interface CallOfOne {
        Object on(SighTreaties x, int number);
    }

    interface CallOfTwo {
        Object on(SighTreaties x, int first, int second);
    }

    interface Test {
        void run();
    }

    /** A sentence, or a part of one, that has a test. */
    static final class Quote {
        final int promise;
        final String text;

        Quote(int promise, String text) {
            this.promise = promise;
            this.text = text;
        }
    }

    private static final List<Quote> QUOTES = new ArrayList<>();
    private static String told = "";
    private static int compared;
    private static int wrong;

    private Boundary() {
    }

    static List<Quote> quotes() {
        return QUOTES;
    }

    static int wrongOnes() {
        return wrong;
    }

    /** Runs the test of a sentence; a test that compares nothing is wrong, too. */
    static void test(int promise, String sentence, Test test) {
        QUOTES.add(new Quote(promise, sentence));
        told = "promise " + promise + ", \"" + sentence + "\": ";
        int before = compared;
        try {
            test.run();
        } catch (RuntimeException e) {
            fault("the test itself met " + e);
        }
        if (compared == before) {
            fault("nothing was compared");
        }
    }

    static void endOfTests() {
        told = "";
    }

    static void fault(String what) {
        wrong++;
        System.out.println(told + what);
    }

    private static Object plain(Object answer) {
        return answer instanceof Integer ? (Object) ((Integer) answer).longValue() : answer;
    }

    static Object answer(SighTreaties x, Call call) {
        try {
            return plain(call.on(x));
        } catch (RuntimeException e) {
            return "throws " + e.getClass().getSimpleName();
        }
    }

    static Call call(Order order) {
        return x -> {
            order.on(x);
            return "nothing";
        };
    }

    static void due(String what, Object got, Object want) {
        compared++;
        if (!plain(got).equals(plain(want))) {
            fault(what + " answered " + got + ", due is " + want);
        }
    }

    /** Makes an object, and asks it; gives the object back for what comes then. */
    static SighTreaties answers(String what, Maker maker, Object want, Call call) {
        SighTreaties x = maker.make();
        due(what, answer(x, call), want);
        return x;
    }

    /** The call throws this exception, and behind it the object is like one that never had the call. */
    static void refused(String what, Maker maker, String exception, Call call) {
        SighTreaties x = maker.make();
        SighTreaties y = maker.make();
        due(what, answer(x, call), exception);
        due(what + ", and then all that there is", picture(x), picture(y));
    }

    static void unchanging(String what, Maker maker, Call call) {
        SighTreaties x = maker.make();
        SighTreaties y = maker.make();
        answer(x, call);
        due(what + ", and then all that there is", picture(x), picture(y));
    }

    /** The call saves the state from before it, with room for a saved state and without. */
    static void saves(String what, Maker maker, Call call) {
        SighTreaties x = maker.make();
        SighTreaties y = maker.make();
        forget(x);
        forget(y);
        due(what + " is taken", answer(x, call).toString().startsWith("throws"), false);
        due(what + ", saved states", x.savedStates(), 2);
        x.undo();
        due(what + ", undone", picture(x), picture(y));
        SighTreaties z = maker.make();
        fillSaved(z);
        call.on(z);
        due(what + ", saved states of 6", z.savedStates(), 6);
        z.undo();
        due(what + ", undone of 6", z.savedStates(), 5);
    }

    /** Leaves one saved state alone, that of going back. */
    static void forget(SighTreaties x) {
        x.keep(0);
        for (int saved = x.savedStates(); saved > 0; saved--) {
            x.undo();
        }
        x.goBack(0);
    }

    /** Makes 6 saved states of what there are, without any other change. */
    static void fillSaved(SighTreaties x) {
        for (int saved = x.savedStates(); saved < 6; saved++) {
            x.cast(4, 2, x.staminaOf(4, 2));
        }
    }

    /**
     * All that an object tells: the digest, what the digest leaves out, and then the same of each saved state and of
     * each snapshot. The object is used up by it.
     */
    static List<Object> picture(SighTreaties x) {
        List<Object> all = new ArrayList<>();
        addPresent(all, x);
        all.add(x.firstError());
        int saved = x.savedStates();
        for (int i = 0; i < saved; i++) {
            x.undo();
            all.add(x.digest());
        }
        for (int i = 0; i < 2; i++) {
            int slot = i;
            all.add(answer(x, call(y -> y.goBack(slot))));
            all.add(x.digest());
        }
        return all;
    }

    private static void addPresent(List<Object> all, SighTreaties x) {
        all.add(x.digest());
        int clauses = x.clauses();
        for (int tongue = 0; tongue < 3; tongue++) {
            int asked = x.recordedIn(tongue) > 0 ? clauses : 0;
            for (int clause = 0; clause < asked; clause++) {
                int number = clause;
                int in = tongue;
                all.add(answer(x, y -> y.sessionOf(number, in)));
            }
            for (int reel = 0; reel < 4; reel++) {
                int signers = x.isMixed(reel, tongue) ? 5 : 0;
                for (int state = 0; state < signers; state++) {
                    all.add(x.hasSigned(state, reel, tongue));
                }
            }
        }
    }

    // ---- numbers from the first to the last one that is allowed, and those beside them

    /** Each number from least to most is taken; the next ones on both sides, and the farthest, are refused. */
    static void range(Maker maker, int least, int most, String exception, CallOfOne call) {
        for (int number = least; number <= most; number++) {
            int n = number;
            Object got = answer(maker.make(), x -> call.on(x, n));
            due(n + " is taken, not " + got, got.toString().startsWith("throws"), false);
        }
        beside(maker, least, most, exception, call);
    }

    private static void beside(Maker maker, int least, int most, String exception, CallOfOne call) {
        for (int number : List.of(least - 1, most + 1, FAR[0], FAR[1])) {
            refused("" + number, maker, exception, x -> call.on(x, number));
        }
    }

    /** Numbers that there are do not throw for being numbers; those beside them do. */
    private static void numbers(Maker maker, int size, CallOfOne call) {
        for (int number : List.of(0, size - 1)) {
            Object got = answer(maker.make(), x -> call.on(x, number));
            due("there is " + number + ", and it answers " + got, got.equals(INDEX), false);
        }
        beside(maker, 0, size - 1, INDEX, call);
    }

    /** Without clauses, with three of which one is undone, with the clauses of this maker, and with 24. */
    static void noSuchClause(Maker maker, CallOfOne call) {
        for (int clause : List.of(-1, 0, 1, 23, 24, FAR[0], FAR[1])) {
            refused("clause " + clause + " of none", Made::empty, INDEX, x -> call.on(x, clause));
        }
        for (int clause : List.of(2, 3)) {
            refused("clause " + clause + ", which is undone", Made::twoAndOneUndone, INDEX, x -> call.on(x, clause));
        }
        numbers(maker, maker.make().clauses(), call);
        numbers(Made::full, 24, call);
    }

    static void noSuchClauseOrTongue(Maker maker, CallOfTwo call) {
        int last = maker.make().clauses() - 1;
        for (int tongue = 0; tongue < 3; tongue++) {
            int t = tongue;
            noSuchClause(maker, (x, clause) -> call.on(x, clause, t));
        }
        numbers(maker, 3, (x, tongue) -> call.on(x, 0, tongue));
        numbers(maker, 3, (x, tongue) -> call.on(x, last, tongue));
        refused("neither", maker, INDEX, x -> call.on(x, -1, 3));
    }

    static void noSuchReel(Maker maker, CallOfOne call) {
        numbers(maker, 4, call);
        numbers(Made::empty, 4, call);
    }

    static void noSuchTongue(Maker maker, CallOfOne call) {
        numbers(maker, 3, call);
        numbers(Made::empty, 3, call);
    }

    static void noSuchState(Maker maker, CallOfOne call) {
        numbers(maker, 5, call);
        numbers(Made::empty, 5, call);
    }

    static void noSuchReelOrTongue(Maker maker, CallOfTwo call) {
        for (int other : List.of(0, 2)) {
            noSuchReel(maker, (x, reel) -> call.on(x, reel, other));
            noSuchTongue(maker, (x, tongue) -> call.on(x, other, tongue));
        }
        noSuchTongue(maker, (x, tongue) -> call.on(x, 3, tongue));
        refused("neither", maker, INDEX, x -> call.on(x, 4, -1));
    }

    static void noSuchStateOrTongue(Maker maker, CallOfTwo call) {
        for (int other : List.of(0, 2)) {
            noSuchState(maker, (x, state) -> call.on(x, state, other));
            noSuchTongue(maker, (x, tongue) -> call.on(x, other, tongue));
        }
        noSuchTongue(maker, (x, tongue) -> call.on(x, 4, tongue));
        refused("neither", maker, INDEX, x -> call.on(x, 5, -1));
    }

    static void noSuchStateOrReel(Maker maker, CallOfTwo call) {
        for (int other : List.of(0, 3)) {
            noSuchState(maker, (x, state) -> call.on(x, state, other));
            noSuchReel(maker, (x, reel) -> call.on(x, other, reel));
        }
        noSuchReel(maker, (x, reel) -> call.on(x, 4, reel));
        refused("neither", maker, INDEX, x -> call.on(x, 5, -1));
    }
}
