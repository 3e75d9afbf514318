import java.lang.reflect.InvocationTargetException;
import java.lang.reflect.Method;

/** What the tests of boundaries share. Every answer that is not the one that is due is printed and counted. */
class Bench {
    interface Ask {
        Object ask();
    }

    interface Act {
        void act(RefinementMint m);
    }

    interface Made {
        RefinementMint make();
    }

    /** Makes a term of some parts, as many as it has. */
    interface OfParts {
        int make(RefinementMint m, int[] parts);
    }

    static final Class<?> INDEX = IndexOutOfBoundsException.class;
    static final Class<?> ARGUMENT = IllegalArgumentException.class;
    static final Class<?> STATE = IllegalStateException.class;
    static final Class<?> NONE = java.util.NoSuchElementException.class;
    static final Class<?> UNSUPPORTED = UnsupportedOperationException.class;
    static final Class<?> ARITHMETIC = ArithmeticException.class;

    static final int MIN = Integer.MIN_VALUE;
    static final int MAX = Integer.MAX_VALUE;

    /** The functions and terms of rich(). */
    static final int SUMS = 0;
    static final int JOIN = 1;
    static final int WRONG = 2;
    static final int BARE = 3;
    static int partOfRich;
    static int bodyOfRich;
    static int looseOne;
    static int looseTwo;
    static int looseThree;
    static int looseFour;

    private static int wrong = 0;
    private static String now = "";

    /** Runs each method without parameters of a class of tests; the name of each says what it is of. */
    static void runAll(Class<?> tests, int least) {
        int count = 0;
        for (Method test : tests.getDeclaredMethods()) {
            if (test.getParameterCount() == 0 && test.getName().matches("(promise|paragraph).*")) {
                now = test.getName();
                count++;
                test.setAccessible(true);
                try {
                    test.invoke(null);
                } catch (IllegalAccessException | InvocationTargetException e) {
                    wrong++;
                    System.out.println(now + " ended by " + (e.getCause() == null ? e : e.getCause()));
                }
            }
        }
        if (count < least) {
            wrong++;
            System.out.println("only " + count + " tests were found");
        }
        System.out.println(wrong == 0 ? count + " tests of boundaries hold" : wrong + " wrong answers");
        System.exit(wrong == 0 ? 0 : 1);
    }

    static void due(String what, long got, long want) {
        if (got != want) {
            miss(what, got, want);
        }
    }

    static void due(String what, boolean got, boolean want) {
        if (got != want) {
            miss(what, got, want);
        }
    }

    static void dueReal(String what, double got, double want) {
        if (got != want) {
            miss(what, got, want);
        }
    }

    private static void miss(String what, Object got, Object want) {
        wrong++;
        System.out.println(now + ": " + what + " answered " + got + ", due is " + want);
    }

    static void fails(String what, Class<?> want, Ask ask) {
        Object got = "nothing";
        try {
            ask.ask();
        } catch (RuntimeException e) {
            got = e.getClass();
        }
        if (got != want) {
            wrong++;
            System.out.println(now + ": " + what + " threw " + got + ", due is " + want);
        }
    }

    /** A call that is refused changes nothing: later calls answer as they do on an object on which it was not made. */
    static void refused(String what, Class<?> want, Made made, Act act) {
        RefinementMint asked = made.make();
        RefinementMint other = made.make();
        fails(what, want, () -> {
            act.act(asked);
            return 0;
        });
        String got = later(asked);
        String left = later(other);
        if (!got.equals(left)) {
            int at = 0;
            while (at < got.length() && at < left.length() && got.charAt(at) == left.charAt(at)) {
                at++;
            }
            miss(what + ", refused, changed something:", from(got, at), from(left, at));
        }
    }

    private static String from(String text, int at) {
        return text.substring(Math.max(0, at - 30), Math.min(text.length(), at + 30));
    }

    /** What a call answers, or the exception by which it ends. */
    static String told(Ask ask) {
        try {
            return " " + ask.ask();
        } catch (RuntimeException e) {
            return " " + e.getClass().getSimpleName().substring(0, 7);
        }
    }

    /** What many later calls answer: first those that tell something, then some that change something. */
    private static String later(RefinementMint m) {
        StringBuilder all = new StringBuilder();
        all.append(told(m::result)).append(told(m::checks)).append(told(m::steps));
        for (int i = 0; i < 7; i++) {
            laterOf(all, m, i);
        }
        all.append(told(m::allConditions)).append(told(m::provedShare)).append(told(m::meanNeeded)).append(told(m::isSound));
        for (int i = 0; i < 4; i++) {
            int f = i;
            all.append(told(() -> m.needs(f, -1, 0, 98))).append(told(() -> m.gives(f, -1, 3, 98)));
            all.append(told(() -> m.findNeeds(f))).append(told(() -> m.findGives(f)));
            all.append(told(() -> m.setLazy(f, false)));
        }
        all.append(told(() -> m.pattern(0, 1, 97))).append(told(() -> m.addFunction(0, 0, false)));
        all.append(told(m::empty));
        for (int i = 0; i < 120; i++) {
            int term = i;
            all.append(told(() -> m.setBody(0, term)));
        }
        return all.toString();
    }

    private static void laterOf(StringBuilder all, RefinementMint m, int f) {
        String error = told(() -> m.error(f));
        all.append(error);
        if (error.startsWith(" Index")) {
            return;
        }
        all.append(told(() -> m.errorAt(f))).append(told(() -> m.ways(f))).append(told(() -> m.conditions(f)));
        all.append(told(() -> m.allNeeds(f))).append(told(() -> m.allGives(f))).append(told(() -> m.isInRing(f)));
        all.append(told(() -> m.doesNeed(f, -1, 0, 0))).append(told(() -> m.doesGive(f, -1, 3, 0)));
        for (int i = 0; i < 3; i++) {
            int c = i;
            all.append(told(() -> m.termOf(f, c))).append(told(() -> m.isProved(f, c))).append(told(() -> m.facts(f, c)));
            all.append(told(() -> m.needed(f, c))).append(told(() -> m.example(f, c, 0)));
        }
        all.append(told(() -> m.run(f, 3, 2, 1))).append(told(m::result)).append(told(m::steps));
        all.append(told(() -> m.runFew(f, 3, 2, 1))).append(told(m::checks));
    }

    /** Each value is refused, and changes nothing. */
    static void refusedEach(String what, Class<?> want, Made made, int[] values, java.util.function.BiConsumer<RefinementMint, Integer> act) {
        for (int value : values) {
            refused(what + " " + value, want, made, m -> act.accept(m, value));
        }
    }

    static int[] of(int... values) {
        return values;
    }

    static RefinementMint fresh() {
        return new RefinementMint();
    }

    /** A function that calls itself, a list function of which all is to be found, one with an error, one without a body. */
    static RefinementMint rich() {
        RefinementMint m = new RefinementMint();
        m.addFunction(1, 0, false);
        m.addFunction(2, 1, false);
        m.addFunction(0, 0, true);
        m.addFunction(3, 5, false);
        m.needs(SUMS, -1, 0, 0);
        m.gives(SUMS, -1, 3, 0);
        m.metric(SUMS, 0, 0, -1, 0);
        int rest = m.call(SUMS, m.plus(m.name(0), -1), -1, -1);
        partOfRich = rest;
        bodyOfRich = m.choice('<', m.number(0), m.name(0), m.sum(m.name(0), rest), m.number(0));
        m.setBody(SUMS, bodyOfRich);
        m.findNeeds(JOIN);
        m.findGives(JOIN);
        m.pattern(0, 1, 0);
        m.pattern(1, 2, 0);
        m.metric(JOIN, 0, 0, 1, 0);
        int longer = m.plus(m.call(JOIN, m.name(4), m.name(1), -1), 1);
        m.setBody(JOIN, m.match(m.name(0), m.name(1), 3, 4, longer));
        m.setBody(WRONG, m.plus(m.empty(), 1));
        m.needs(BARE, 1, -1, 5);
        looseOne = m.number(7);
        looseTwo = m.name(0);
        looseThree = m.number(8);
        looseFour = m.number(9);
        m.run(SUMS, 3, 0, 0);
        return m;
    }

    /** A function of one number and as many terms, all of them empty lists that are free. */
    static RefinementMint withTerms(int count) {
        RefinementMint m = new RefinementMint();
        m.addFunction(1, 0, false);
        for (int i = 0; i < count; i++) {
            m.empty();
        }
        return m;
    }

    /** A function of so many parameters, with those that are lists as the sum of powers of 2. */
    static RefinementMint withFunction(int parameters, int lists, boolean isList) {
        RefinementMint m = new RefinementMint();
        m.addFunction(parameters, lists, isList);
        return m;
    }

    /** A number of any size, made of small ones. */
    static int great(RefinementMint m, int number) {
        int left = number;
        int first = Math.max(-99, Math.min(99, left));
        int term = m.number(first);
        left -= first;
        while (left != 0) {
            int more = Math.max(-99, Math.min(99, left));
            term = m.plus(term, more);
            left -= more;
        }
        return term;
    }

    /** A row of choices with so many ways. */
    static int row(RefinementMint m, int ways) {
        int term = m.number(0);
        for (int i = 1; i < ways; i++) {
            term = m.choice('<', m.name(0), m.number(i), m.number(i), term);
        }
        return term;
    }
}
