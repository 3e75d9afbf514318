import java.util.NoSuchElementException;

/** One method for each promise: ordinary inputs, edges, wrong inputs. What is due is worked out by hand from the document. */
public final class PromiseTest {
    private interface Act {
        void act();
    }

    private static int wrong = 0;
    private static String now = "";

    private static final Class<?> INDEX = IndexOutOfBoundsException.class;
    private static final Class<?> ARGUMENT = IllegalArgumentException.class;
    private static final Class<?> STATE = IllegalStateException.class;
    private static final Class<?> NONE = NoSuchElementException.class;
    private static final Class<?> UNSUPPORTED = UnsupportedOperationException.class;
    private static final Class<?> ARITHMETIC = ArithmeticException.class;

    private static void due(String what, long got, long want) {
        if (got != want) {
            wrong++;
            System.out.println(now + ": " + what + " answered " + got + ", due is " + want);
        }
    }

    private static void due(String what, boolean got, boolean want) {
        due(what, got ? 1 : 0, want ? 1 : 0);
    }

    private static void dueReal(String what, double got, double want) {
        if (got != want) {
            wrong++;
            System.out.println(now + ": " + what + " answered " + got + ", due is " + want);
        }
    }

    private static void fails(String what, Class<?> want, Act act) {
        Class<?> got = null;
        try {
            act.act();
        } catch (RuntimeException e) {
            got = e.getClass();
        }
        if (got != want) {
            wrong++;
            System.out.println(now + ": " + what + " threw " + got + ", due is " + want);
        }
    }

    public static void main(String[] args) {
        now = "functions";
        functions();
        now = "told atoms";
        toldAtoms();
        now = "patterns and metrics";
        patternsAndMetrics();
        now = "terms";
        terms();
        now = "bodies";
        bodies();
        now = "errors";
        errors();
        now = "ways";
        ways();
        now = "40 ways";
        fortyWays();
        now = "conditions";
        conditions();
        now = "unlike";
        unlike();
        now = "sides of unlike";
        sidesOfUnlike();
        now = "lists";
        lists();
        now = "metric proofs";
        metricProofs();
        now = "examples";
        examples();
        now = "far examples";
        farExamples();
        now = "found";
        found();
        now = "rings";
        rings();
        now = "runs";
        runs();
        now = "limits of runs";
        limitsOfRuns();
        now = "great numbers";
        greatNumbers();
        now = "few checks";
        fewChecks();
        now = "measures";
        measures();
        now = "many conditions";
        manyConditions();
        now = "shares";
        shares();
        System.out.println(wrong == 0 ? "all promises hold" : wrong + " wrong answers");
        System.exit(wrong == 0 ? 0 : 1);
    }

    private static void functions() {
        RefinementMint m = new RefinementMint();
        fails("too few parameters", ARGUMENT, () -> m.addFunction(-1, 0, false));
        fails("too many parameters", ARGUMENT, () -> m.addFunction(4, 0, false));
        fails("a list that is no parameter", ARGUMENT, () -> m.addFunction(2, 4, false));
        fails("a list without parameters", ARGUMENT, () -> m.addFunction(0, 1, false));
        fails("a sum below 0", ARGUMENT, () -> m.addFunction(3, -1, false));
        due("first", m.addFunction(0, 0, true), 0);
        due("second", m.addFunction(3, 7, false), 1);
        for (int i = 2; i < 6; i++) {
            due("more", m.addFunction(1, 0, false), i);
        }
        fails("a seventh", STATE, () -> m.addFunction(1, 0, false));
        fails("a seventh that is wrong", ARGUMENT, () -> m.addFunction(1, 2, false));
        due("without a body", m.error(5), 'b');
        due("not lazy", m.setLazy(0, true), false);
        due("lazy", m.setLazy(0, false), true);
        due("not lazy any more", m.setLazy(0, false), false);
        fails("no function", INDEX, () -> m.setLazy(6, true));
        fails("no function", INDEX, () -> m.setLazy(-1, true));
    }

    private static void toldAtoms() {
        RefinementMint m = new RefinementMint();
        m.addFunction(2, 0, false);
        fails("no function", INDEX, () -> m.needs(1, 0, 0, 100));
        fails("no function", INDEX, () -> m.gives(-1, 0, 0, 100));
        fails("the result", ARGUMENT, () -> m.needs(0, 3, 0, 0));
        fails("no parameter", ARGUMENT, () -> m.needs(0, 2, 0, 0));
        fails("no parameter", ARGUMENT, () -> m.needs(0, 0, -2, 0));
        fails("both alike", ARGUMENT, () -> m.needs(0, -1, -1, 0));
        fails("a number", ARGUMENT, () -> m.needs(0, 0, 1, 100));
        fails("a number", ARGUMENT, () -> m.gives(0, 0, 1, -100));
        fails("no parameter", ARGUMENT, () -> m.gives(0, 2, 3, 0));
        fails("both the result", ARGUMENT, () -> m.gives(0, 3, 3, 0));
        due("one", m.needs(0, 0, 1, 99), 1);
        due("the same", m.needs(0, 0, 1, 99), 1);
        due("two", m.needs(0, 0, 1, -99), 2);
        due("three", m.needs(0, -1, 1, 0), 3);
        due("four", m.needs(0, 1, -1, 5), 4);
        due("four still", m.needs(0, 1, -1, 5), 4);
        fails("a fifth", STATE, () -> m.needs(0, 1, -1, 6));
        fails("a fifth that is wrong", ARGUMENT, () -> m.needs(0, 1, 1, 6));
        due("all", m.allNeeds(0), 4);
        due("has", m.doesNeed(0, 0, 1, -99), true);
        due("has not", m.doesNeed(0, 0, 1, 0), false);
        due("has not the other way round", m.doesNeed(0, 1, 0, 99), false);
        due("things out of range", m.doesNeed(0, 9, -7, 1000), false);
        fails("no function", INDEX, () -> m.doesNeed(1, 0, 1, 0));
        fails("no function", INDEX, () -> m.allNeeds(1));
        due("given", m.gives(0, 3, 0, 1), 1);
        due("given", m.gives(0, -1, 3, 1), 2);
        due("does", m.doesGive(0, 3, 0, 1), true);
        due("does not", m.doesGive(0, 3, 0, 2), false);
        due("all given", m.allGives(0), 2);
        fails("no function", INDEX, () -> m.doesGive(-1, 0, 1, 0));
        fails("no function", INDEX, () -> m.allGives(2));
        due("left to find", m.findNeeds(0), 4);
        due("left already", m.findNeeds(0), 0);
        due("none found without a body", m.allNeeds(0), 0);
        due("left to find", m.findGives(0), 2);
        due("none found without a body", m.allGives(0), 0);
        due("told again", m.needs(0, -1, 0, 0), 1);
        due("told again", m.gives(0, -1, 3, 0), 1);
        due("left once more", m.findGives(0), 1);
        fails("no function", INDEX, () -> m.findNeeds(1));
        fails("no function", INDEX, () -> m.findGives(-1));
    }

    private static void patternsAndMetrics() {
        RefinementMint m = new RefinementMint();
        fails("nothing twice", ARGUMENT, () -> m.pattern(0, 0, 1));
        fails("the result twice", ARGUMENT, () -> m.pattern(2, 2, 1));
        fails("a thing", ARGUMENT, () -> m.pattern(3, 0, 1));
        fails("a thing", ARGUMENT, () -> m.pattern(0, -1, 1));
        fails("a number", ARGUMENT, () -> m.pattern(0, 1, 100));
        due("first", m.pattern(1, 1, -99), 1);
        for (int i = 2; i <= 8; i++) {
            due("again", m.pattern(0, 1, 99), i);
        }
        fails("a ninth", STATE, () -> m.pattern(0, 1, 99));
        fails("a ninth that is wrong", ARGUMENT, () -> m.pattern(0, 1, -100));
        m.addFunction(2, 1, false);
        m.addFunction(0, 0, false);
        due("one place", m.metric(0, 1, 99, -1, 1000), 1);
        due("two places", m.metric(0, 0, -99, 1, 99), 2);
        due("the same twice", m.metric(0, 0, 0, 0, 0), 2);
        fails("no function", INDEX, () -> m.metric(2, 9, 0, -1, 0));
        fails("no parameter", ARGUMENT, () -> m.metric(0, 2, 0, -1, 0));
        fails("nothing", ARGUMENT, () -> m.metric(0, -1, 0, -1, 0));
        fails("no parameter", ARGUMENT, () -> m.metric(0, 0, 0, 2, 0));
        fails("no parameter", ARGUMENT, () -> m.metric(0, 0, 0, -2, 0));
        fails("a number", ARGUMENT, () -> m.metric(0, 0, 100, -1, 0));
        fails("a number", ARGUMENT, () -> m.metric(0, 0, 0, 1, -100));
        fails("no parameters at all", ARGUMENT, () -> m.metric(1, 0, 0, -1, 0));
    }

    private static void terms() {
        RefinementMint m = new RefinementMint();
        fails("a number", ARGUMENT, () -> m.number(100));
        fails("a number", ARGUMENT, () -> m.number(-100));
        fails("a name", ARGUMENT, () -> m.name(10));
        fails("a name", ARGUMENT, () -> m.name(-1));
        due("number", m.number(-99), 0);
        due("name", m.name(9), 1);
        due("empty", m.empty(), 2);
        fails("plus", ARGUMENT, () -> m.plus(9, 100));
        fails("plus", INDEX, () -> m.plus(9, 99));
        fails("plus", INDEX, () -> m.plus(-1, 99));
        due("plus", m.plus(0, 99), 3);
        fails("a part already", UNSUPPORTED, () -> m.plus(0, 1));
        fails("sum", INDEX, () -> m.sum(0, 4));
        fails("both the same", UNSUPPORTED, () -> m.sum(1, 1));
        due("sum", m.sum(1, 3), 4);
        fails("let", ARGUMENT, () -> m.let(10, 99, 99));
        fails("let", INDEX, () -> m.let(0, 2, 99));
        fails("let", UNSUPPORTED, () -> m.let(0, 2, 2));
        due("let", m.let(0, 2, 4), 5);
        due("numbers", m.number(1), 6);
        due("numbers", m.number(2), 7);
        due("numbers", m.number(3), 8);
        fails("choice", ARGUMENT, () -> m.choice('>', 6, 7, 8, 5));
        fails("choice", INDEX, () -> m.choice('<', 6, 7, 8, 9));
        fails("choice", UNSUPPORTED, () -> m.choice('=', 6, 7, 8, 8));
        fails("choice", UNSUPPORTED, () -> m.choice('=', 6, 7, 8, 4));
        due("choice", m.choice('<', 6, 7, 8, 5), 9);
        m.addFunction(1, 0, false);
        m.addFunction(0, 0, false);
        fails("call", NONE, () -> m.call(2, 99, 99, 99));
        fails("call", NONE, () -> m.call(-1, -1, -1, -1));
        fails("call", INDEX, () -> m.call(0, -2, -1, -1));
        fails("call", INDEX, () -> m.call(0, -1, 9, -1));
        fails("call", INDEX, () -> m.call(0, 9, -1, 9));
        fails("call", INDEX, () -> m.call(0, 10, -1, -1));
        fails("call", UNSUPPORTED, () -> m.call(0, 9, 9, -1));
        due("call", m.call(0, 9, -1, -1), 10);
        due("call of none", m.call(1, -1, -1, -1), 11);
        due("empty", m.empty(), 12);
        fails("ahead", INDEX, () -> m.ahead(10, 13));
        fails("ahead", UNSUPPORTED, () -> m.ahead(12, 12));
        due("ahead", m.ahead(10, 12), 13);
        due("empty", m.empty(), 14);
        fails("match", ARGUMENT, () -> m.match(13, 14, 1, 1, 99));
        fails("match", ARGUMENT, () -> m.match(13, 14, 10, 1, 99));
        fails("match", ARGUMENT, () -> m.match(13, 14, 1, -1, 99));
        fails("match", INDEX, () -> m.match(13, 14, 1, 2, 99));
        fails("match", UNSUPPORTED, () -> m.match(13, 14, 1, 2, 14));
        due("match", m.match(13, 14, 1, 9, 11), 15);
        fails("claim", ARGUMENT, () -> m.claim(0, 0, 100, 0));
        fails("claim", INDEX, () -> m.claim(15, 16, 0, 15));
        fails("claim", UNSUPPORTED, () -> m.claim(15, 14, 0, 13));
        for (int i = 16; i < 119; i++) {
            due("empty", m.empty(), i);
        }
        due("claim", m.claim(15, 16, -99, 17), 119);
        fails("no more", STATE, () -> m.empty());
        fails("no more", STATE, () -> m.number(0));
        fails("no more", ARGUMENT, () -> m.name(10));
        fails("no more", STATE, () -> m.plus(18, 0));
        fails("no more", STATE, () -> m.sum(18, 19));
        fails("no more", STATE, () -> m.let(0, 18, 19));
        fails("no more", STATE, () -> m.choice('<', 18, 19, 20, 21));
        fails("no more", STATE, () -> m.call(0, 18, 19, 20));
        fails("no more", STATE, () -> m.ahead(18, 19));
        fails("no more", STATE, () -> m.match(18, 19, 0, 1, 20));
        fails("no more", STATE, () -> m.claim(18, 19, 0, 20));
        fails("no more, and taken", UNSUPPORTED, () -> m.claim(18, 19, 0, 19));
    }

    private static void bodies() {
        RefinementMint m = new RefinementMint();
        m.addFunction(1, 0, false);
        m.addFunction(1, 0, false);
        int first = m.name(0);
        int second = m.number(4);
        fails("no function", INDEX, () -> m.setBody(2, first));
        fails("no term", INDEX, () -> m.setBody(0, 2));
        fails("no term", INDEX, () -> m.setBody(0, -1));
        due("set", m.setBody(0, first), '-');
        fails("its own body", UNSUPPORTED, () -> m.setBody(0, first));
        fails("a body", UNSUPPORTED, () -> m.setBody(1, first));
        fails("a body", UNSUPPORTED, () -> m.plus(first, 1));
        due("set in place", m.setBody(0, second), '-');
        int grown = m.plus(first, 1);
        fails("a part", UNSUPPORTED, () -> m.setBody(1, first));
        due("set", m.setBody(1, grown), '-');
        due("runs", m.run(1, 5, 0, 0), 'v');
        due("result", m.result(), 6);
        due("runs", m.run(0, 5, 0, 0), 'v');
        due("result", m.result(), 4);
    }

    private static RefinementMint withLists() {
        RefinementMint m = new RefinementMint();
        m.addFunction(2, 1, false);
        m.addFunction(1, 1, true);
        m.addFunction(0, 0, false);
        return m;
    }

    private static void errors() {
        RefinementMint m = withLists();
        fails("no function", INDEX, () -> m.error(3));
        fails("no function", INDEX, () -> m.errorAt(-1));
        fails("no body", NONE, () -> m.errorAt(0));
        due("not bound", m.setBody(0, m.plus(m.name(5), 1)), 'v');
        due("at the name", m.errorAt(0), 0);
        due("error", m.error(0), 'v');
        fails("ways of an error", STATE, () -> m.ways(0));
        fails("no ways without a body", STATE, () -> m.ways(1));
        fails("conditions of an error", STATE, () -> m.conditions(0));
        due("a list for a number", m.setBody(0, m.plus(m.name(0), 1)), 't');
        due("a list for a body", m.setBody(0, m.empty()), 't');
        due("at the body", m.errorAt(0), m.number(0) - 1);
        due("a number for a body", m.setBody(1, m.number(1)), 't');
        due("a call with few", m.setBody(0, m.call(0, m.name(0), -1, -1)), 'c');
        due("a call with many", m.setBody(0, m.call(2, m.name(0), -1, -1)), 'c');
        due("both of a call", m.setBody(0, m.call(0, m.name(1), -1, -1)), 'c');
        int inner = m.call(0, m.name(1), m.name(0), -1);
        due("kinds of a call", m.setBody(0, inner), 't');
        due("a name ahead of a kind", m.setBody(0, m.sum(m.number(1), m.name(7))), 'v');
        due("a sum of a list", m.setBody(0, m.sum(m.number(1), m.empty())), 't');
        due("ahead of a number", m.setBody(1, m.ahead(m.number(1), m.number(2))), 't');
        due("a list ahead", m.setBody(1, m.ahead(m.empty(), m.empty())), 't');
        due("a match of a number", m.setBody(1, m.match(m.number(1), m.empty(), 3, 4, m.empty())), 't');
        due("unlike in a match", m.setBody(1, m.match(m.name(0), m.empty(), 3, 4, m.name(3))), 't');
        due("unlike in a choice", m.setBody(0, m.choice('<', m.name(0), m.name(1), m.number(0), m.empty())), 't');
        due("a list against a number", m.setBody(0, m.choice('<', m.name(0), m.name(1), m.number(0), m.number(1))), '-');
        fails("none", NONE, () -> m.errorAt(0));
        RefinementMint n = withLists();
        due("bound in a match", n.setBody(1, n.match(n.name(0), n.empty(), 3, 4, n.ahead(n.name(3), n.name(4)))), '-');
        due("not bound where empty", n.setBody(1, n.match(n.name(0), n.name(4), 3, 4, n.name(4))), 'v');
        due("not bound behind a let", n.setBody(0, n.sum(n.let(5, n.number(1), n.name(5)), n.name(5))), 'v');
        due("not bound in what is bound", n.setBody(0, n.let(5, n.name(5), n.number(1))), 'v');
        due("bound again", n.setBody(0, n.let(0, n.number(3), n.plus(n.name(0), 1))), '-');
        due("bound to a list", n.setBody(0, n.let(1, n.empty(), n.name(1))), 't');
        due("claims of both", n.setBody(0, n.claim(n.name(0), n.name(1), 3, n.name(1))), '-');
        due("an outer name again", n.setBody(0, n.let(5, n.name(0), n.let(6, n.let(5, n.number(1), n.name(5)),
                n.match(n.name(5), n.name(6), 7, 8, n.name(7))))), '-');
    }

    private static int wayFan(RefinementMint m, int deep) {
        int term = m.number(0);
        for (int i = 0; i < deep; i++) {
            term = m.choice('<', term, m.name(0), m.number(1), m.number(2));
        }
        return term;
    }

    private static void ways() {
        RefinementMint m = new RefinementMint();
        m.addFunction(1, 0, false);
        m.addFunction(1, 1, false);
        fails("no function", INDEX, () -> m.ways(2));
        due("one way", m.setBody(0, m.name(0)), '-');
        due("one way", m.ways(0), 1);
        due("two to the fifth", m.setBody(0, wayFan(m, 5)), '-');
        due("two to the fifth", m.ways(0), 32);
        int many = wayFan(m, 6);
        due("too many", m.setBody(0, many), 's');
        due("at the body", m.errorAt(0), many);
        fails("too many", STATE, () -> m.ways(0));
        RefinementMint n = new RefinementMint();
        n.addFunction(1, 1, false);
        int term = n.number(0);
        for (int i = 0; i < 39; i++) {
            term = i < 10 ? n.choice('=', n.number(0), n.number(i), n.number(1), term)
                    : i % 2 == 0 ? n.match(n.name(0), n.number(0), 3, 4, term) : term;
        }
        due("a row", n.setBody(0, term), '-');
        due("a row", n.ways(0), 26);
    }

    /** A row of choices with so many ways. */
    private static int row(RefinementMint m, int ways) {
        int term = m.number(0);
        for (int i = 1; i < ways; i++) {
            term = m.choice('<', m.name(0), m.number(i), m.number(i), term);
        }
        return term;
    }

    private static void fortyWays() {
        RefinementMint m = new RefinementMint();
        m.addFunction(1, 0, false);
        int twenty = m.sum(row(m, 4), row(m, 5));
        due("40", m.setBody(0, m.choice('=', m.name(0), m.number(1), twenty, m.sum(row(m, 5), row(m, 4)))), '-');
        due("40", m.ways(0), 40);
        RefinementMint n = new RefinementMint();
        n.addFunction(1, 0, false);
        twenty = n.sum(row(n, 4), row(n, 5));
        due("41", n.setBody(0, n.choice('=', n.name(0), n.number(1), twenty, n.sum(row(n, 3), row(n, 7)))), 's');
    }

    /** The sum of the numbers up to n, which needs n not below 0, and gives no less than n. */
    private static RefinementMint sums() {
        RefinementMint m = new RefinementMint();
        m.addFunction(1, 0, false);
        m.needs(0, -1, 0, 0);
        m.gives(0, -1, 3, 0);
        int rest = m.call(0, m.plus(m.name(0), -1), -1, -1);
        m.setBody(0, m.choice('<', m.number(0), m.name(0), m.sum(m.name(0), rest), m.number(0)));
        return m;
    }

    private static void conditions() {
        RefinementMint m = sums();
        due("ways", m.ways(0), 2);
        due("conditions", m.conditions(0), 4);
        String kinds = "pmee";
        for (int i = 0; i < 4; i++) {
            due("kind " + i, m.kindOf(0, i), kinds.charAt(i));
        }
        due("at the call", m.termOf(0, 0), 2);
        due("at the call", m.termOf(0, 1), 2);
        due("at the body", m.termOf(0, 2), 8);
        due("0 <= n - 1", m.isProved(0, 0), true);
        due("no metric", m.isProved(0, 1), false);
        due("a sum is not known", m.isProved(0, 2), false);
        due("0 <= 0", m.isProved(0, 3), true);
        due("facts", m.facts(0, 0), 2);
        due("facts", m.facts(0, 1), 2);
        due("facts", m.facts(0, 2), 3);
        due("facts", m.facts(0, 3), 2);
        due("needed", m.needed(0, 0), 1);
        due("needed", m.neededAt(0, 0, 0), 1);
        due("none needed", m.needed(0, 3), 0);
        fails("no place", NONE, () -> m.neededAt(0, 0, 1));
        fails("no place", NONE, () -> m.neededAt(0, 0, -1));
        fails("no place", NONE, () -> m.neededAt(0, 3, 0));
        fails("not proved", UNSUPPORTED, () -> m.needed(0, 2));
        fails("not proved", UNSUPPORTED, () -> m.neededAt(0, 2, 0));
        fails("no condition", NONE, () -> m.needed(0, 4));
        fails("no condition", NONE, () -> m.neededAt(0, -1, 0));
        fails("no condition", NONE, () -> m.kindOf(0, 4));
        fails("no condition", NONE, () -> m.termOf(0, -1));
        fails("no condition", NONE, () -> m.isProved(0, 4));
        fails("no condition", NONE, () -> m.facts(0, 4));
        fails("no condition", NONE, () -> m.example(0, 4, 0));
        fails("no condition", NONE, () -> m.isReal(0, -1));
        fails("no function", INDEX, () -> m.kindOf(1, 0));
        fails("no function", INDEX, () -> m.termOf(1, 0));
        fails("no function", INDEX, () -> m.isProved(-1, 0));
        fails("no function", INDEX, () -> m.facts(1, 0));
        fails("no function", INDEX, () -> m.needed(1, 0));
        fails("no function", INDEX, () -> m.neededAt(1, 0, 0));
        fails("no function", INDEX, () -> m.example(1, 0, 0));
        fails("no function", INDEX, () -> m.isReal(1, 0));
        fails("no function", INDEX, () -> m.conditions(1));
        m.addFunction(0, 0, false);
        fails("no body", STATE, () -> m.kindOf(1, 0));
        fails("no body", STATE, () -> m.termOf(1, 0));
        fails("no body", STATE, () -> m.isProved(1, 0));
        fails("no body", STATE, () -> m.facts(1, 0));
        fails("no body", STATE, () -> m.needed(1, 0));
        fails("no body", STATE, () -> m.neededAt(1, 0, 0));
        fails("no body", STATE, () -> m.example(1, 0, 0));
        fails("no body", STATE, () -> m.isReal(1, 0));
        fails("no body", STATE, () -> m.conditions(1));
        due("all", m.allConditions(), 4);
        due("the metric", m.metric(0, 0, 0, -1, 0), 1);
        due("gets less", m.isProved(0, 1), true);
        due("needed for that", m.needed(0, 1), 1);
        due("the comparison", m.neededAt(0, 1, 0), 1);
        due("lazy", m.setLazy(0, true), false);
        due("without the metric", m.conditions(0), 3);
        due("order of atoms", m.needs(0, 0, -1, 50), 2);
        due("two more facts and conditions", m.conditions(0), 4);
        due("0 - n comes ahead of n - 0", m.isProved(0, 0), true);
        due("n - 1 <= 50", m.needed(0, 1), 1);
        due("by n <= 50", m.neededAt(0, 1, 0), 1);
    }

    /** Facts that a difference is not a number, at ends, in the middle, and many of them. */
    private static void unlike() {
        RefinementMint m = new RefinementMint();
        m.addFunction(2, 0, false);
        m.needs(0, -1, 0, 0);
        m.needs(0, 0, -1, 3);
        int claim = m.claim(m.name(0), m.number(3), -3, m.number(0));
        int body = m.choice('=', m.name(0), m.number(3), m.number(1), claim);
        body = m.choice('=', m.name(0), m.number(1), m.number(1), body);
        body = m.choice('=', m.name(0), m.number(2), m.number(1), body);
        due("body", m.setBody(0, body), '-');
        due("ways", m.ways(0), 4);
        due("one claim", m.conditions(0), 1);
        due("only 0 is left", m.isProved(0, 0), true);
        due("facts", m.facts(0, 0), 5);
        due("all but that it is not below 0", m.needed(0, 0), 4);
        due("the most", m.neededAt(0, 0, 0), 1);
        due("not 2", m.neededAt(0, 0, 1), 2);
        due("not 1", m.neededAt(0, 0, 2), 3);
        due("not 3", m.neededAt(0, 0, 3), 4);
        RefinementMint n = new RefinementMint();
        n.addFunction(3, 0, false);
        // three numbers of 0 and 1 can not all differ, which no two of them tell
        int wrong = n.claim(n.number(1), n.number(0), 0, n.number(0));
        int three = n.choice('=', n.name(1), n.name(2), n.number(0), wrong);
        three = n.choice('=', n.name(0), n.name(2), n.number(0), three);
        three = n.choice('=', n.name(0), n.name(1), n.number(0), three);
        n.setBody(0, three);
        due("can differ", n.isProved(0, 0), false);
        due("example", n.example(0, 0, 0), 0);
        due("example", n.example(0, 0, 1), 1);
        due("example", n.example(0, 0, 2), -1);
        due("real", n.isReal(0, 0), true);
        for (int i = 0; i < 3; i++) {
            due("other example", n.example(0, 0, i), i == 2 ? -1 : i);
        }
        n.needs(0, -1, 0, 0);
        n.needs(0, 1, -1, 1);
        n.needs(0, 0, 1, 0);
        n.needs(0, 1, 2, 0);
        due("1 is the most of the second", n.isProved(0, 0), false);
        due("0 below 1", n.example(0, 0, 0), 0);
        due("1 below", n.example(0, 0, 1), 1);
        due("2 then", n.example(0, 0, 2), 2);
        n.findNeeds(0);
        due("no patterns", n.allNeeds(0), 0);
        RefinementMint k = new RefinementMint();
        k.addFunction(3, 0, false);
        k.needs(0, -1, 0, 0);
        k.needs(0, 0, -1, 1);
        k.needs(0, -1, 1, 0);
        k.needs(0, 1, -1, 1);
        int last = k.claim(k.number(1), k.number(0), 0, k.number(0));
        int body2 = k.choice('=', k.name(1), k.name(2), k.number(0), last);
        body2 = k.choice('=', k.name(0), k.name(2), k.number(0), body2);
        body2 = k.choice('=', k.name(0), k.name(1), k.number(0), body2);
        body2 = k.choice('<', k.name(2), k.number(0), k.number(0), body2);
        body2 = k.choice('<', k.number(1), k.name(2), k.number(0), body2);
        k.setBody(0, body2);
        due("three of two numbers", k.isProved(0, 0), true);
        due("facts", k.facts(0, 0), 9);
        due("all are needed", k.needed(0, 0), 9);
        due("sound", k.isSound(), true);
    }

    /** A way on which no number is less than 0 and the first two are at most 1, the third one at most 2. */
    private static int inRanges(RefinementMint m, int term) {
        int all = term;
        for (int i = 0; i < 3; i++) {
            all = m.choice('<', m.name(i), m.number(0), m.number(7), all);
            all = m.choice('<', m.number(i < 2 ? 1 : 2), m.name(i), m.number(7), all);
        }
        return all;
    }

    /** Three numbers that all differ: the third one is 2 then, and that only where one of the others is 1. */
    private static void sidesOfUnlike() {
        for (int one = 0; one < 2; one++) {
            for (int isOut = 0; isOut < 2; isOut++) {
                RefinementMint m = new RefinementMint();
                m.addFunction(3, 0, false);
                m.needs(0, 2, one, 1);
                int term = m.claim(m.number(1), m.number(0), 0, m.number(0));
                if (isOut == 1) {
                    term = m.choice('<', m.name(one), m.name(1 - one), term, m.number(0));
                }
                term = m.choice('=', m.name(0), m.name(1), m.number(0), term);
                term = m.choice('=', m.name(2), m.name(1), m.number(0), term);
                term = m.choice('=', m.name(0), m.name(2), m.number(0), term);
                m.setBody(0, inRanges(m, term));
                due("the third is 2", m.isProved(0, 0), isOut == 1);
                if (isOut == 0) {
                    due("first", m.example(0, 0, 0), one == 0 ? 1 : 0);
                    due("second", m.example(0, 0, 1), one == 0 ? 0 : 1);
                    due("third", m.example(0, 0, 2), 2);
                    due("real", m.isReal(0, 0), true);
                }
                due("sound", m.isSound(), true);
            }
        }
    }

    private static void lists() {
        RefinementMint m = new RefinementMint();
        m.addFunction(1, 1, false);
        m.addFunction(2, 3, true);
        m.gives(0, 3, 0, 0);
        m.gives(0, 0, 3, 0);
        int rest = m.call(0, m.name(4), -1, -1);
        m.setBody(0, m.match(m.name(0), m.number(0), 3, 4, m.plus(rest, 1)));
        due("conditions", m.conditions(0), 5);
        String kinds = "eemee";
        for (int i = 0; i < 5; i++) {
            due("kind " + i, m.kindOf(0, i), kinds.charAt(i));
            due("proved " + i, m.isProved(0, i), i != 2);
        }
        due("facts where empty", m.facts(0, 0), 2);
        due("0 - length first", m.needed(0, 0), 1);
        due("that the length is at most 0", m.neededAt(0, 0, 0), 1);
        due("length - 0", m.neededAt(0, 1, 0), 0);
        due("facts behind the call", m.facts(0, 3), 4);
        m.metric(0, 0, 0, -1, 0);
        due("the rest is less", m.isProved(0, 2), true);
        due("runs", m.run(0, 7, 0, 0), 'v');
        due("length", m.result(), 7);
        fails("a list below 0", ARGUMENT, () -> m.run(0, -1, 0, 0));
        m.gives(1, 3, -1, 20);
        int more = m.call(1, m.name(4), m.name(1), -1);
        m.setBody(1, m.match(m.name(0), m.name(1), 3, 4, m.ahead(m.name(3), more)));
        due("appended", m.run(1, 3, 4, 0), 'v');
        due("appended", m.result(), 7);
        due("too long", m.run(1, 9, 12, 0), 'e');
        due("facts: both, a way, the result, what is given", m.facts(1, 2), 5);
        due("kind", m.kindOf(1, 2), 'e');
        due("not proved", m.isProved(1, 2), false);
        due("example", m.example(1, 2, 0), 1);
        due("example", m.example(1, 2, 1), 0);
        due("not real", m.isReal(1, 2), false);
        due("at the empty list", m.isProved(1, 0), false);
        due("example", m.example(1, 0, 0), 0);
        due("example", m.example(1, 0, 1), 21);
        due("real", m.isReal(1, 0), true);
        fails("no such parameter", NONE, () -> m.example(1, 0, 2));
        fails("no such parameter", NONE, () -> m.example(1, 0, -1));
        RefinementMint n = new RefinementMint();
        n.addFunction(1, 1, false);
        n.setBody(0, n.match(n.ahead(n.number(8), n.ahead(n.number(9), n.name(0))), n.number(0), 3, 4,
                n.match(n.name(4), n.number(1), 5, 6, n.sum(n.name(3), n.name(5)))));
        due("first numbers", n.run(0, 2, 0, 0), 'v');
        due("first numbers", n.result(), 17);
        due("steps", n.steps(), 11);
    }

    private static void metricProofs() {
        RefinementMint m = new RefinementMint();
        m.addFunction(2, 0, false);
        m.metric(0, 0, 0, 1, 0);
        m.needs(0, -1, 0, 0);
        m.needs(0, -1, 1, 0);
        int inner = m.call(0, m.plus(m.name(0), -1), m.number(50), -1);
        int same = m.call(0, m.name(0), m.plus(m.name(1), -1), -1);
        int body = m.choice('<', m.number(0), m.name(1), same, m.number(0));
        body = m.choice('<', m.number(0), m.name(0), m.sum(inner, body), m.number(0));
        m.setBody(0, body);
        due("kinds", m.conditions(0), 6);
        due("first place less", m.kindOf(0, 2), 'm');
        due("first place less", m.isProved(0, 2), true);
        due("second place less", m.kindOf(0, 5), 'm');
        due("second place less", m.isProved(0, 5), true);
        due("its facts", m.needed(0, 5), 1);
        due("its facts", m.neededAt(0, 5, 0), 3);
        m.metric(0, 1, 0, 0, 0);
        due("50 is no less", m.isProved(0, 2), false);
        due("example", m.example(0, 2, 0), 1);
        due("example", m.example(0, 2, 1), 0);
        due("never real", m.isReal(0, 2), false);
        due("still less", m.isProved(0, 5), true);
        m.metric(0, 1, 0, -1, 0);
        due("one place", m.isProved(0, 5), true);
        m.metric(0, 1, -1, -1, 0);
        due("below 0", m.isProved(0, 5), false);
        due("example", m.example(0, 5, 0), 1);
        due("example", m.example(0, 5, 1), 1);
        RefinementMint n = new RefinementMint();
        n.addFunction(1, 0, false);
        n.addFunction(1, 0, false);
        n.needs(0, -1, 0, 0);
        n.needs(1, -1, 0, 0);
        n.setBody(0, n.choice('<', n.number(0), n.name(0), n.call(1, n.plus(n.name(0), -1), -1, -1), n.number(0)));
        n.setBody(1, n.call(0, n.name(0), -1, -1));
        n.metric(0, 0, 0, -1, 0);
        due("no metric of the other", n.isProved(0, 1), false);
        fails("no example then", NONE, () -> n.example(0, 1, 0));
        fails("no example then", NONE, () -> n.isReal(0, 1));
        n.metric(1, 0, 0, 0, 0);
        due("unlike numbers of places", n.isProved(0, 1), false);
        n.metric(1, 0, 1, -1, 0);
        due("n - 1 + 1 is no less than n", n.isProved(0, 1), false);
        due("n is less than n + 1", n.isProved(1, 1), true);
        n.metric(0, 0, 1, -1, 0);
        n.metric(1, 0, 1, -1, 0);
        due("less", n.isProved(0, 1), true);
        due("no less", n.isProved(1, 1), false);
        due("example", n.example(1, 1, 0), 0);
        n.setLazy(1, true);
        due("only what is needed", n.conditions(0), 1);
        due("only what is needed", n.conditions(1), 1);
        due("in a ring", n.isInRing(0), true);
    }

    private static void examples() {
        RefinementMint m = new RefinementMint();
        m.addFunction(2, 0, false);
        m.setBody(0, m.claim(m.name(0), m.name(1), -1, m.name(0)));
        due("not proved", m.isProved(0, 0), false);
        due("kind", m.kindOf(0, 0), 'a');
        due("first", m.example(0, 0, 0), 0);
        due("second", m.example(0, 0, 1), 0);
        due("real", m.isReal(0, 0), true);
        m.needs(0, 0, -1, -7);
        due("nearest to 0", m.example(0, 0, 0), -7);
        due("second", m.example(0, 0, 1), -7);
        m.needs(0, 1, 0, -99);
        due("far", m.example(0, 0, 1), -106);
        due("real beyond 99", m.isReal(0, 0), true);
        due("facts", m.facts(0, 0), 2);
        RefinementMint n = new RefinementMint();
        n.addFunction(1, 0, false);
        int big = n.number(99);
        for (int i = 0; i < 6; i++) {
            big = n.plus(big, 85);
        }
        // 99 + 510 < the parameter
        n.setBody(0, n.choice('<', big, n.name(0), n.claim(n.name(0), n.number(0), 0, n.name(0)), n.number(0)));
        due("not proved", n.isProved(0, 0), false);
        fails("too far", NONE, () -> n.example(0, 0, 0));
        fails("too far", NONE, () -> n.isReal(0, 0));
        RefinementMint k = new RefinementMint();
        k.addFunction(0, 0, false);
        k.setBody(0, k.claim(k.number(1), k.number(0), 0, k.number(5)));
        due("wrong at once", k.isProved(0, 0), false);
        fails("no parameter", NONE, () -> k.example(0, 0, 0));
        due("real", k.isReal(0, 0), true);
        k.addFunction(0, 0, false);
        k.setBody(0, k.claim(k.number(1), k.number(0), 0, k.call(1, -1, -1, -1)));
        due("can not be run", k.isReal(0, 0), false);
        RefinementMint j = new RefinementMint();
        j.addFunction(1, 0, false);
        j.setBody(0, j.claim(j.name(0), j.number(0), 98, j.number(0)));
        due("an end", j.example(0, 0, 0), 99);
        fails("of what is proved", NONE, () -> sums().example(0, 0, 0));
        fails("of what is proved", NONE, () -> sums().isReal(0, 0));
        due("result unlike", sums().example(0, 2, 0), 1);
        due("not real: a sum is no less", sums().isReal(0, 2), false);
        due("isReal leaves the last run", j.run(0, 5, 0, 0), 'v');
        due("isReal", j.isReal(0, 0), true);
        due("isReal leaves the last run", j.result(), 0);
        due("isReal leaves the last run", j.checks(), 1);
        due("isReal leaves the last run", j.steps(), 4);
    }

    private static int great(RefinementMint m, int number) {
        int left = number;
        int term = m.number(0);
        while (left != 0) {
            int more = Math.max(-99, Math.min(99, left));
            term = m.plus(term, more);
            left -= more;
        }
        return term;
    }

    private static void farExamples() {
        for (int list = 0; list < 2; list++) {
            RefinementMint m = new RefinementMint();
            m.addFunction(1, list, false);
            m.setBody(0, m.claim(m.name(0), great(m, 599), 0, m.number(1)));
            due("600", m.example(0, 0, 0), 600);
            due("600 is run", m.isReal(0, 0), true);
            m.setBody(0, m.claim(m.name(0), great(m, 600), 0, m.number(1)));
            fails("601", NONE, () -> m.example(0, 0, 0));
        }
        RefinementMint n = new RefinementMint();
        n.addFunction(1, 0, false);
        n.setBody(0, n.claim(great(n, -599), n.name(0), 0, n.number(1)));
        due("-600", n.example(0, 0, 0), -600);
        n.setBody(0, n.claim(great(n, -600), n.name(0), 0, n.number(1)));
        fails("-601", NONE, () -> n.example(0, 0, 0));
        due("nor is it real, but sound", n.isSound(), true);
        // of 1 and -1, 1 comes first; 0 is out
        RefinementMint k = new RefinementMint();
        k.addFunction(1, 0, false);
        k.setBody(0, k.choice('=', k.name(0), k.number(0), k.number(0), k.claim(k.number(1), k.number(0), 0, k.number(0))));
        due("1 ahead of -1", k.example(0, 0, 0), 1);
        k.needs(0, 0, -1, 0);
        due("-1 then", k.example(0, 0, 0), -1);
        // 5 can not be, as then the result of the call would be 5 and less than 5
        RefinementMint j = new RefinementMint();
        j.addFunction(1, 0, false);
        j.addFunction(1, 0, false);
        j.gives(1, 3, 0, 0);
        j.gives(1, -1, 3, -3);
        j.setBody(0, j.claim(j.call(1, j.name(0), -1, -1), j.number(0), 2, j.number(0)));
        due("from what is given", j.example(0, 0, 0), 3);
    }

    private static int doubled(RefinementMint m, int term, int times) {
        int all = term;
        for (int i = 0; i < times; i++) {
            all = m.let(3, all, m.sum(m.name(3), m.name(3)));
        }
        return all;
    }

    private static void greatNumbers() {
        for (int sign = -1; sign <= 1; sign += 2) {
            RefinementMint m = new RefinementMint();
            m.addFunction(1, 0, false);
            // ((122 * 128) + 9) * 64
            int million = doubled(m, m.plus(doubled(m, great(m, 122 * sign), 7), 9 * sign), 6);
            m.setBody(0, m.sum(million, m.name(0)));
            due("1000000", m.run(0, 0, 0, 0), 'v');
            due("1000000", m.result(), 1000000 * sign);
            due("1000001", m.run(0, sign, 0, 0), 'o');
            fails("no value", NONE, () -> m.result());
            int part = m.plus(m.number(0), 0);
            due("a body in place", m.setBody(0, part), '-');
        }
    }

    private static void found() {
        RefinementMint m = new RefinementMint();
        m.addFunction(2, 0, false);
        m.addFunction(0, 0, false);
        m.findNeeds(0);
        m.findGives(0);
        m.pattern(0, 1, 0);
        m.pattern(1, 2, 0);
        m.pattern(1, 2, 0);
        m.pattern(1, 1, 0);
        m.setBody(0, m.name(1));
        due("all that can be, without calls", m.allNeeds(0), 4);
        due("0 - first", m.doesNeed(0, -1, 0, 0), true);
        due("0 - second", m.doesNeed(0, -1, 1, 0), true);
        due("first - second", m.doesNeed(0, 0, 1, 0), true);
        due("second - first", m.doesNeed(0, 1, 0, 0), true);
        due("without the result", m.doesNeed(0, 0, 3, 0), false);
        due("with the result too, each once", m.allGives(0), 6);
        due("first - result", m.doesGive(0, 0, 3, 0), true);
        due("not among the conditions", m.conditions(0), 0);
        m.setBody(1, m.call(0, m.number(3), m.number(5), -1));
        due("by a call", m.allNeeds(0), 3);
        due("3 - 5", m.doesNeed(0, 0, 1, 0), true);
        due("5 - 3", m.doesNeed(0, 1, 0, 0), false);
        due("what follows from it", m.allGives(0), 5);
        due("second - first", m.doesGive(0, 1, 0, 0), false);
        due("second - result", m.doesGive(0, 1, 3, 0), true);
        m.setBody(1, m.call(0, m.number(5), m.number(-3), -1));
        due("by another call", m.allNeeds(0), 2);
        due("what follows from it", m.doesGive(0, 0, 3, 0), false);
        m.setBody(1, m.name(0));
        due("a call in a body with an error does not count", m.allNeeds(0), 4);
        m.setBody(0, m.empty());
        due("nothing for an error", m.allNeeds(0), 0);
        due("nothing for an error", m.allGives(0), 0);
        // what is found falls together: each of two functions calls the other one
        RefinementMint n = new RefinementMint();
        n.addFunction(1, 0, false);
        n.addFunction(1, 0, false);
        n.findNeeds(0);
        n.findNeeds(1);
        n.pattern(0, 1, 0);
        n.setBody(0, n.call(1, n.name(0), -1, -1));
        n.setBody(1, n.call(0, n.name(0), -1, -1));
        due("holds round the ring", n.allNeeds(0), 1);
        n.setBody(1, n.call(0, n.plus(n.name(0), -1), -1, -1));
        due("falls", n.allNeeds(0), 0);
        due("falls behind it", n.allNeeds(1), 0);
        n.setBody(1, n.choice('<', n.number(0), n.name(0), n.call(0, n.plus(n.name(0), -1), -1, -1), n.number(1)));
        due("holds on its way", n.allNeeds(0), 1);
        due("holds", n.allNeeds(1), 1);
        n.needs(0, -1, 0, 5);
        due("told in place", n.allNeeds(0), 1);
        due("the other falls", n.allNeeds(1), 0);
    }

    private static void rings() {
        RefinementMint m = new RefinementMint();
        for (int i = 0; i < 4; i++) {
            m.addFunction(0, 0, false);
        }
        fails("no function", INDEX, () -> m.isInRing(4));
        due("no body", m.isInRing(0), false);
        m.setBody(0, m.call(1, -1, -1, -1));
        m.setBody(1, m.call(2, -1, -1, -1));
        m.setBody(2, m.call(1, -1, -1, -1));
        due("comes to a ring", m.isInRing(0), false);
        due("in it", m.isInRing(1), true);
        due("in it", m.isInRing(2), true);
        due("only there metrics", m.conditions(0), 0);
        due("only there metrics", m.conditions(1), 1);
        m.setBody(2, m.sum(m.call(1, -1, -1, -1), m.name(0)));
        due("not through an error", m.isInRing(1), false);
        due("false for an error", m.isInRing(2), false);
        due("no metric then", m.conditions(1), 0);
        m.setBody(3, m.call(3, -1, -1, -1));
        due("itself", m.isInRing(3), true);
        due("all", m.allConditions(), 1);
    }

    private static void runs() {
        RefinementMint m = sums();
        fails("no run", NONE, () -> m.result());
        due("no run", m.checks(), 0);
        due("no run", m.steps(), 0);
        due("run", m.run(0, 4, 1000, -1000), 'v');
        due("sum", m.result(), 10);
        due("checks of five calls", m.checks(), 10);
        due("steps", m.steps(), 4 * 8 + 4);
        due("needs", m.run(0, -1, 0, 0), 'p');
        due("one check", m.checks(), 1);
        due("no step", m.steps(), 0);
        fails("no value", NONE, () -> m.result());
        due("run", m.run(0, 1, 0, 0), 'v');
        fails("a parameter", ARGUMENT, () -> m.run(0, 100, 0, 0));
        fails("a parameter", ARGUMENT, () -> m.runFew(0, -100, 0, 0));
        fails("no function", INDEX, () -> m.run(1, 100, 0, 0));
        fails("no function", INDEX, () -> m.runFew(-1, 100, 0, 0));
        due("the last run is left", m.result(), 1);
        m.addFunction(1, 1, false);
        fails("no body", STATE, () -> m.run(1, 0, 0, 0));
        fails("no body, and a list below 0", ARGUMENT, () -> m.run(1, -1, 0, 0));
        m.addFunction(0, 0, false);
        m.setBody(2, m.call(1, m.empty(), -1, -1));
        fails("comes to one without", STATE, () -> m.run(2, 0, 0, 0));
        m.setBody(1, m.claim(m.name(0), m.number(3), 0, m.number(7)));
        due("now", m.run(2, 0, 0, 0), 'v');
        due("now", m.result(), 7);
        due("claim", m.run(1, 4, 0, 0), 'a');
        due("its check", m.checks(), 1);
        due("steps of a claim", m.steps(), 3);
        m.gives(1, 3, 0, 3);
        due("end", m.run(1, 3, 0, 0), 'e');
        due("checks", m.checks(), 2);
        m.needs(1, 0, -1, -1);
        due("needed at a call", m.run(2, 0, 0, 0), 'p');
        due("steps so far", m.steps(), 2);
        m.setBody(1, m.name(5));
        fails("an error", STATE, () -> m.run(2, 0, 0, 0));
        fails("an error", STATE, () -> m.run(1, 0, 0, 0));
    }

    private static void limitsOfRuns() {
        RefinementMint m = new RefinementMint();
        m.addFunction(1, 0, false);
        m.addFunction(1, 0, false);
        m.addFunction(2, 0, false);
        // n calls within each other: f(n) = n = 0 ? 0 : f(n - 1)
        m.setBody(0, m.choice('=', m.name(0), m.number(0), m.number(0), m.call(0, m.plus(m.name(0), -1), -1, -1)));
        due("31 calls: the last one within 30", m.run(0, 31, 0, 0), 'v');
        due("steps", m.steps(), 31 * 6 + 4);
        due("32 calls", m.run(0, 32, 0, 0), 'l');
        due("steps: up to the parts of the last call", m.steps(), 32 * 6);
        fails("no value", NONE, () -> m.result());
        int term = m.name(0);
        for (int i = 0; i < 7; i++) {
            term = m.let(3, term, m.sum(m.name(3), m.name(3)));
        }
        m.setBody(1, term);
        due("doubled", m.run(1, 99, 0, 0), 'v');
        due("doubled", m.result(), 99 * 128);
        int call = m.call(1, m.call(1, m.name(0), -1, -1), -1, -1);
        m.setBody(2, call);
        due("1000000 and more", m.run(2, 62, 0, 0), 'o');
        due("just below", m.run(2, 61, 0, 0), 'v');
        due("61 * 16384", m.result(), 999424);
        due("the other way", m.run(2, -62, 0, 0), 'o');
        due("just above", m.run(2, -61, 0, 0), 'v');
        RefinementMint n = new RefinementMint();
        n.addFunction(1, 0, false);
        n.addFunction(1, 0, false);
        // a tree of calls: g(n) = n < 1 ? 0 : g(n - 1) + g(n - 1)
        n.setBody(0, n.choice('<', n.name(0), n.number(1), n.number(0),
                n.sum(n.call(0, n.plus(n.name(0), -1), -1, -1), n.call(0, n.plus(n.name(0), -1), -1, -1))));
        due("15 sums of 10 steps, and 16 ends of 4", n.run(0, 4, 0, 0), 'v');
        due("steps", n.steps(), 15 * 10 + 16 * 4);
        due("31 sums and 32 ends", n.run(0, 5, 0, 0), 'l');
        due("at most 400 steps", n.steps(), 400);
    }

    private static void fewChecks() {
        RefinementMint m = sums();
        due("few", m.runFew(0, 4, 0, 0), 'v');
        due("the first need, and all ends", m.checks(), 1 + 5);
        due("steps as ever", m.steps(), 4 * 8 + 4);
        due("the first need is checked", m.runFew(0, -1, 0, 0), 'p');
        RefinementMint n = new RefinementMint();
        n.addFunction(1, 0, false);
        n.needs(0, -1, 0, 0);
        n.gives(0, 3, 0, 0);
        n.setBody(0, n.claim(n.number(0), n.name(0), 0, n.claim(n.number(1), n.name(0), 0, n.name(0))));
        due("all", n.run(0, 1, 0, 0), 'v');
        due("all", n.checks(), 4);
        due("without the proved claim and the end", n.runFew(0, 1, 0, 0), 'v');
        due("without the proved claim and the end", n.checks(), 2);
        due("ends as ever", n.runFew(0, 0, 0, 0), 'a');
        due("ends as ever", n.checks(), 2);
        n.findGives(0);
        n.findNeeds(0);
        n.pattern(0, 1, 0);
        n.pattern(2, 1, 0);
        due("found", n.allNeeds(0), 1);
        due("found", n.allGives(0), 2);
        due("what is found is checked", n.run(0, 1, 0, 0), 'v');
        due("what is found is checked", n.checks(), 5);
        due("what is found is proved", n.runFew(0, 1, 0, 0), 'v');
        due("but for the first need", n.checks(), 2);
        due("the first need", n.runFew(0, -1, 0, 0), 'p');
    }

    /** Lists that are made in a run stand for their lengths on both sides. */
    private static void measures() {
        RefinementMint m = new RefinementMint();
        m.addFunction(1, 0, false);
        for (int side = 0; side < 4; side++) {
            int list = m.ahead(m.number(50), m.ahead(m.number(60), m.empty()));
            int number = m.name(0);
            int first = side % 2 == 0 ? list : number;
            int second = side % 2 == 0 ? number : list;
            m.setBody(0, side < 2 ? m.choice('<', first, second, m.number(1), m.number(0))
                    : m.claim(first, second, -1, m.number(1)));
            for (int n = 1; n <= 3; n++) {
                boolean isHeld = side % 2 == 0 ? 2 < n : n < 2;
                due("ends " + side + " " + n, m.run(0, n, 0, 0), side < 2 || isHeld ? 'v' : 'a');
                if (side < 2) {
                    due("goes on " + side + " " + n, m.result(), isHeld ? 1 : 0);
                }
            }
        }
        RefinementMint n = new RefinementMint();
        n.addFunction(1, 1, true);
        n.addFunction(1, 0, true);
        n.needs(0, -1, 0, -2);
        n.gives(0, 3, -1, 3);
        n.setBody(0, n.ahead(n.number(77), n.name(0)));
        n.setBody(1, n.call(0, n.choice('=', n.name(0), n.number(1), n.ahead(n.number(9), n.empty()),
                n.ahead(n.number(9), n.ahead(n.number(9), n.empty()))), -1, -1));
        due("a list of 1 at a call", n.run(1, 1, 0, 0), 'p');
        due("a list of 2 at a call", n.run(1, 2, 0, 0), 'v');
        due("one more", n.result(), 3);
        due("checks", n.checks(), 2);
    }

    private static void manyConditions() {
        RefinementMint m = new RefinementMint();
        m.addFunction(1, 0, false);
        m.addFunction(1, 0, false);
        m.gives(0, 0, 3, 0);
        m.needs(1, -1, 0, -7);
        for (int i = 0; i < 4; i++) {
            m.needs(0, -1, 0, i - 5);
        }
        int term = m.name(0);
        for (int i = 0; i < 70; i++) {
            term = m.call(0, term, -1, -1);
        }
        m.setBody(1, m.let(9, wayFan(m, 5), term));
        due("32 ways with 70 calls with 4 atoms", m.conditions(1), 32 * 70 * 4);
        due("all proved", m.isProved(1, 32 * 70 * 4 - 1), true);
        due("facts", m.facts(1, 32 * 70 * 4 - 1), 1 + 5 + 69);
        due("needed: the first, and what each call gives", m.needed(1, 70 * 4 - 1), 1 + 69);
        fails("no more", NONE, () -> m.kindOf(1, 32 * 70 * 4));
        dueReal("all proved", m.provedShare(), 1);
    }

    private static void shares() {
        RefinementMint m = new RefinementMint();
        due("none", m.allConditions(), 0);
        fails("none", ARITHMETIC, () -> m.provedShare());
        fails("none", ARITHMETIC, () -> m.meanNeeded());
        due("sound", m.isSound(), true);
        RefinementMint n = sums();
        due("all", n.allConditions(), 4);
        dueReal("two of four", n.provedShare(), 0.5);
        dueReal("one and none", n.meanNeeded(), 0.5);
        due("sound", n.isSound(), true);
        n.metric(0, 0, 0, -1, 0);
        dueReal("three of four", n.provedShare(), 0.75);
        dueReal("one, one and none", n.meanNeeded(), 2.0 / 3.0);
        n.addFunction(1, 0, false);
        n.setBody(1, n.claim(n.name(0), n.number(0), 0, n.number(0)));
        due("all", n.allConditions(), 5);
        dueReal("three of five", n.provedShare(), 3f / 5f);
        due("sound", n.isSound(), true);
        n.setBody(1, n.name(7));
        due("without errors", n.allConditions(), 4);
        RefinementMint k = new RefinementMint();
        k.addFunction(1, 0, false);
        k.setBody(0, k.claim(k.name(0), k.number(0), 0, k.number(0)));
        dueReal("none proved", k.provedShare(), 0);
        fails("none proved", ARITHMETIC, () -> k.meanNeeded());
    }
}
