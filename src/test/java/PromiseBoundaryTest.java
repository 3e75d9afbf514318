import java.util.Arrays;
import java.util.List;
import java.util.function.Function;

/**
 * Each sentence of "Promise 1" to "Promise 47" that names a boundary: the last value that is allowed and the first one
 * that is not, the last call that finds room and the first one that finds none, a call that is refused and changes
 * nothing, and of several exceptions the one that is listed first. The comment of each test tells the promise and the
 * sentence.
 */
public final class PromiseBoundaryTest extends Bench {
    public static void main(String[] args) {
        runAll(PromiseBoundaryTest.class, 130);
    }

    /** Promise 1: "Creates a language without functions, terms and patterns." */
    static void promise01NothingIsThere() {
        for (int round = 0; round < 2; round++) {
            RefinementMint m = fresh();
            fails("no function", INDEX, () -> m.error(0));
            fails("no term", INDEX, () -> m.plus(0, 0));
            fails("no run", NONE, m::result);
            due("no checks", m.checks(), 0);
            due("no steps", m.steps(), 0);
            due("no conditions", m.allConditions(), 0);
            fails("no share", ARITHMETIC, m::provedShare);
            fails("no mean", ARITHMETIC, m::meanNeeded);
            due("sound", m.isSound(), true);
            due("the first pattern", m.pattern(0, 1, 0), 1);
            due("the first term", m.empty(), 0);
            due("the first function", m.addFunction(1, 0, false), 0);
            // a second round finds another object empty, whatever stands in this one
            m.setBody(0, m.name(0));
            m.run(0, 1, 0, 0);
        }
    }

    /** Promise 2: "the number of parameters, 0 to 3"; "Throws IllegalArgumentException if the number is out of range". */
    static void promise02NumberOfParameters() {
        refusedEach("parameters", ARGUMENT, Bench::rich, of(-1, 4, 5, 31, 32, 33, MIN, MAX), (m, n) -> m.addFunction(n, 0, false));
        for (int parameters = 0; parameters <= 3; parameters++) {
            int all = parameters;
            RefinementMint m = withFunction(parameters, 0, false);
            due("bodies of all names", m.setBody(0, m.name(Math.max(0, all - 1))), all == 0 ? 'v' : '-');
            due("bodies of one more", m.setBody(0, m.name(all)), 'v');
        }
    }

    /** Promise 2: "which of them are lists, as the sum of 2 to the power of each"; refused if "the sum has others". */
    static void promise02SumOfLists() {
        for (int parameters = 0; parameters <= 3; parameters++) {
            int all = parameters;
            int none = 1 << all;
            refusedEach("lists of " + all, ARGUMENT, Bench::rich, of(none, none + 1, -1, MIN, MAX, 256), (m, n) -> m.addFunction(all, n, false));
            for (int lists = 0; lists < none; lists++) {
                RefinementMint m = withFunction(all, lists, false);
                m.setBody(0, m.number(5));
                for (int i = 0; i < all; i++) {
                    int first = i == 0 ? -1 : 0;
                    int second = i == 1 ? -1 : 0;
                    int third = i == 2 ? -1 : 0;
                    if ((lists >> i & 1) == 1) {
                        fails("a list " + i + " of " + lists, ARGUMENT, () -> m.run(0, first, second, third));
                    } else {
                        due("a number " + i + " of " + lists, m.run(0, first, second, third), 'v');
                    }
                }
            }
        }
    }

    /** Promise 2: "whether the result is a list". */
    static void promise02KindOfResult() {
        for (int kind = 0; kind < 2; kind++) {
            RefinementMint m = withFunction(0, 0, kind == 1);
            due("a number", m.setBody(0, m.number(1)), kind == 1 ? 't' : '-');
            due("a list", m.setBody(0, m.empty()), kind == 1 ? '-' : 't');
        }
    }

    /** Promise 2: "Returns the number of the function." "Throws IllegalStateException if there are 6 functions". */
    static void promise02SixFunctions() {
        RefinementMint m = fresh();
        for (int i = 0; i < 6; i++) {
            due("function", m.addFunction(i % 4, 0, i % 2 == 0), i);
            due("without a body", m.error(i), 'b');
        }
        refused("a seventh", STATE, PromiseBoundaryTest::six, n -> n.addFunction(0, 0, false));
        due("the sixth is there", m.error(5), 'b');
        fails("a seventh is not there", INDEX, () -> m.error(6));
    }

    private static RefinementMint six() {
        RefinementMint m = fresh();
        for (int i = 0; i < 6; i++) {
            m.addFunction(1, 0, false);
        }
        return m;
    }

    /** Promise 2: of both exceptions, IllegalArgumentException is listed first. */
    static void promise02Order() {
        refused("parameters, with 6 functions", ARGUMENT, PromiseBoundaryTest::six, n -> n.addFunction(4, 0, false));
        refused("lists, with 6 functions", ARGUMENT, PromiseBoundaryTest::six, n -> n.addFunction(0, 1, false));
    }

    /** Promise 2, refused: a number of a function is not used up by a call that is refused. */
    static void promise02RefusedUsesNoNumber() {
        RefinementMint m = fresh();
        for (int i = 0; i < 6; i++) {
            fails("refused", ARGUMENT, () -> m.addFunction(-1, 0, true));
            due("function", m.addFunction(0, 0, true), i);
        }
    }

    /** Promise 3: "Throws IndexOutOfBoundsException if there is no such function". */
    static void promise03NoSuchFunction() {
        refusedEach("function", INDEX, Bench::rich, of(-1, 4, 6, MIN, MAX), (m, f) -> m.needs(f, -1, 0, 0));
        due("the last one", rich().needs(BARE, -1, 0, 0), 2);
        due("the first one", rich().needs(0, -1, 0, 1), 2);
    }

    /** Promise 3: "Throws IllegalArgumentException if a thing is no parameter of it" (nor -1, nothing). */
    static void promise03ThingIsNoParameter() {
        for (int parameters = 0; parameters <= 3; parameters++) {
            int all = parameters;
            Made made = () -> withFunction(all, 0, false);
            refusedEach("first of " + all, ARGUMENT, made, of(-2, all, 3, 4, MIN, MAX), (m, thing) -> m.needs(0, thing, -1, 0));
            refusedEach("second of " + all, ARGUMENT, made, of(-2, all, 3, 4, MIN, MAX), (m, thing) -> m.needs(0, -1, thing, 0));
            for (int thing = 0; thing < all; thing++) {
                RefinementMint m = made.make();
                due("a parameter first", m.needs(0, thing, -1, 0), 1);
                due("a parameter second", m.needs(0, -1, thing, 0), 2);
            }
        }
    }

    /** Promise 3: refused if "both are the same". */
    static void promise03BothTheSame() {
        Made made = () -> withFunction(2, 0, false);
        refusedEach("both", ARGUMENT, made, of(-1, 0, 1), (m, thing) -> m.needs(0, thing, thing, 0));
        RefinementMint m = made.make();
        due("not the same", m.needs(0, 0, 1, 0), 1);
        due("the other way round", m.needs(0, 1, 0, 0), 2);
    }

    /** Promise 3: "the number, -99 to 99"; refused if "the number is out of range". */
    static void promise03NumberOutOfRange() {
        refusedEach("number", ARGUMENT, Bench::rich, of(-100, 100, 156, -157, MIN, MAX), (m, most) -> m.needs(BARE, -1, 0, most));
        RefinementMint m = rich();
        due("the least", m.needs(BARE, -1, 0, -99), 2);
        due("the greatest", m.needs(BARE, -1, 0, 99), 3);
        due("has the least", m.doesNeed(BARE, -1, 0, -99), true);
        due("has the greatest", m.doesNeed(BARE, -1, 0, 99), true);
    }

    /** Promise 3: "Throws IllegalStateException if 4 other atoms are told so". */
    static void promise03FourOthers() {
        Made three = () -> told(3, true);
        Made four = () -> told(4, true);
        due("the fourth finds room", three.make().needs(0, -1, 0, 4), 4);
        refused("a fifth finds none", STATE, four, m -> m.needs(0, -1, 0, 5));
        for (int i = 1; i <= 4; i++) {
            due("one of the four is no other one", four.make().needs(0, -1, 0, i), 4);
        }
        RefinementMint m = four.make();
        m.gives(0, -1, 0, 5);
        due("what is given is counted apart", m.allGives(0), 1);
        m.addFunction(1, 0, false);
        due("so is what another function needs", m.needs(1, -1, 0, 5), 1);
    }

    private static RefinementMint told(int count, boolean isNeeded) {
        RefinementMint m = withFunction(1, 0, false);
        for (int i = 1; i <= count; i++) {
            if (isNeeded) {
                m.needs(0, -1, 0, i);
            } else {
                m.gives(0, -1, 0, i);
            }
        }
        return m;
    }

    /** Promise 3: "it is told then what it needs, and no more to be found". Found atoms are no "other atoms told so". */
    static void promise03NoMoreToBeFound() {
        RefinementMint m = foundSix();
        due("found", m.allNeeds(0), 6);
        due("the first that is told", m.needs(0, 0, 1, 7), 1);
        due("found no more", m.allNeeds(0), 1);
        due("an atom that was found", m.doesNeed(0, 1, 0, 0), false);
        refused("refused, it is to be found still", ARGUMENT, PromiseBoundaryTest::foundSix, n -> n.needs(0, 0, 1, 100));
        RefinementMint n = foundSix();
        fails("refused", ARGUMENT, () -> n.needs(0, 0, 0, 0));
        due("found still", n.allNeeds(0), 6);
    }

    /** A function of three parameters, of which six atoms are found, both for what it needs and for what it gives. */
    private static RefinementMint foundSix() {
        RefinementMint m = withFunction(3, 0, false);
        m.findNeeds(0);
        m.findGives(0);
        m.pattern(1, 1, 0);
        m.setBody(0, m.name(0));
        return m;
    }

    /** Promise 3: the exceptions in their order: no function, a wrong atom, no room. */
    static void promise03Order() {
        Made four = () -> told(4, true);
        refused("no function, a wrong atom", INDEX, four, m -> m.needs(1, 0, 0, 100));
        refused("a wrong thing, no room", ARGUMENT, four, m -> m.needs(0, 1, -1, 0));
        refused("both the same, no room", ARGUMENT, four, m -> m.needs(0, 0, 0, 0));
        refused("a wrong number, no room", ARGUMENT, four, m -> m.needs(0, -1, 0, 100));
    }

    /** Promise 4: "Throws IndexOutOfBoundsException if there is no such function". */
    static void promise04NoSuchFunction() {
        refusedEach("function", INDEX, Bench::rich, of(-1, 4, 6, MIN, MAX), (m, f) -> m.gives(f, -1, 3, 0));
        due("the last one", rich().gives(BARE, -1, 3, 0), 1);
        due("the first one", rich().gives(0, -1, 3, 1), 2);
    }

    /** Promise 4: "Throws IllegalArgumentException if a thing is no parameter of it and not the result" (nor -1). */
    static void promise04ThingIsNoParameterNorResult() {
        for (int parameters = 0; parameters <= 3; parameters++) {
            int all = parameters;
            Made made = () -> withFunction(all, 0, false);
            int none = all == 3 ? 4 : all;
            refusedEach("first of " + all, ARGUMENT, made, of(-2, none, 4, 5, MIN, MAX), (m, thing) -> m.gives(0, thing, -1, 0));
            refusedEach("second of " + all, ARGUMENT, made, of(-2, none, 4, 5, MIN, MAX), (m, thing) -> m.gives(0, -1, thing, 0));
            RefinementMint m = made.make();
            due("the result first", m.gives(0, 3, -1, 0), 1);
            due("the result second", m.gives(0, -1, 3, 0), 2);
            if (all > 0) {
                due("the last parameter", m.gives(0, all - 1, 3, 0), 3);
                due("the first parameter", m.gives(0, 3, 0, 0), 4);
            }
        }
    }

    /** Promise 4: refused if "both are the same". */
    static void promise04BothTheSame() {
        Made made = () -> withFunction(2, 0, false);
        refusedEach("both", ARGUMENT, made, of(-1, 0, 1, 3), (m, thing) -> m.gives(0, thing, thing, 0));
        due("not the same", made.make().gives(0, 1, 3, 0), 1);
    }

    /** Promise 4: "the number, -99 to 99"; refused if "the number is out of range". */
    static void promise04NumberOutOfRange() {
        refusedEach("number", ARGUMENT, Bench::rich, of(-100, 100, 156, -157, MIN, MAX), (m, most) -> m.gives(BARE, -1, 3, most));
        RefinementMint m = rich();
        due("the least", m.gives(BARE, -1, 3, -99), 1);
        due("the greatest", m.gives(BARE, -1, 3, 99), 2);
        due("has the least", m.doesGive(BARE, -1, 3, -99), true);
        due("has the greatest", m.doesGive(BARE, -1, 3, 99), true);
    }

    /** Promise 4: "Throws IllegalStateException if 4 other atoms are told so". */
    static void promise04FourOthers() {
        Made three = () -> told(3, false);
        Made four = () -> told(4, false);
        due("the fourth finds room", three.make().gives(0, -1, 0, 4), 4);
        refused("a fifth finds none", STATE, four, m -> m.gives(0, -1, 0, 5));
        for (int i = 1; i <= 4; i++) {
            due("one of the four is no other one", four.make().gives(0, -1, 0, i), 4);
        }
        due("what is needed is counted apart", four.make().needs(0, -1, 0, 5), 1);
    }

    /** Promise 4: "it is told then what it gives, and no more to be found". */
    static void promise04NoMoreToBeFound() {
        RefinementMint m = foundSix();
        due("found", m.allGives(0), 6);
        due("the first that is told", m.gives(0, 0, 3, 7), 1);
        due("found no more", m.allGives(0), 1);
        RefinementMint n = foundSix();
        fails("refused", ARGUMENT, () -> n.gives(0, 3, 3, 0));
        due("found still", n.allGives(0), 6);
        refused("refused, it is to be found still", ARGUMENT, PromiseBoundaryTest::foundSix, k -> k.gives(0, 0, 3, -100));
    }

    /** Promise 4: the exceptions in their order: no function, a wrong atom, no room. */
    static void promise04Order() {
        Made four = () -> told(4, false);
        refused("no function, a wrong atom", INDEX, four, m -> m.gives(1, 0, 0, 100));
        refused("a wrong thing, no room", ARGUMENT, four, m -> m.gives(0, 1, -1, 0));
        refused("both the same, no room", ARGUMENT, four, m -> m.gives(0, 3, 3, 0));
        refused("a wrong number, no room", ARGUMENT, four, m -> m.gives(0, -1, 0, 100));
    }

    /** Promise 5: "Returns the number of atoms that were told"; "what was told so is gone". */
    static void promise05HowManyWereTold() {
        for (int count = 0; count <= 4; count++) {
            RefinementMint m = told(count, true);
            due("told", m.findNeeds(0), count);
            due("gone", m.allNeeds(0), 0);
            due("none was told", m.findNeeds(0), 0);
            due("room for the first", m.needs(0, -1, 0, 9), 1);
        }
        RefinementMint m = foundSix();
        due("what is found was not told", m.findNeeds(0), 0);
        due("found still", m.allNeeds(0), 6);
    }

    /** Promise 5: "Throws IndexOutOfBoundsException if there is no such function". */
    static void promise05NoSuchFunction() {
        refusedEach("function", INDEX, Bench::rich, of(-1, 4, 6, MIN, MAX), (m, f) -> m.findNeeds(f));
        due("the last one", rich().findNeeds(BARE), 1);
        due("the first one", rich().findNeeds(0), 1);
    }

    /** Promise 6: "Returns the number of atoms that were told"; "what was told so is gone". */
    static void promise06HowManyWereTold() {
        for (int count = 0; count <= 4; count++) {
            RefinementMint m = told(count, false);
            due("told", m.findGives(0), count);
            due("gone", m.allGives(0), 0);
            due("none was told", m.findGives(0), 0);
            due("room for the first", m.gives(0, -1, 0, 9), 1);
        }
        RefinementMint m = foundSix();
        due("what is found was not told", m.findGives(0), 0);
        due("found still", m.allGives(0), 6);
    }

    /** Promise 6: "Throws IndexOutOfBoundsException if there is no such function". */
    static void promise06NoSuchFunction() {
        refusedEach("function", INDEX, Bench::rich, of(-1, 4, 6, MIN, MAX), (m, f) -> m.findGives(f));
        due("the last one", rich().findGives(BARE), 0);
        due("the first one", rich().findGives(0), 1);
    }

    /** Promise 7: "0 nothing, 1 any parameter, 2 the result"; refused if "one of them is out of range". */
    static void promise07ThingOutOfRange() {
        refusedEach("first", ARGUMENT, Bench::rich, of(-1, 3, 4, MIN, MAX), (m, thing) -> m.pattern(thing, 1, 0));
        refusedEach("second", ARGUMENT, Bench::rich, of(-1, 3, 4, MIN, MAX), (m, thing) -> m.pattern(1, thing, 0));
        RefinementMint m = fresh();
        int count = 0;
        for (int first = 0; first <= 2; first++) {
            for (int second = 0; second <= 2; second++) {
                if (first != second || first == 1) {
                    count++;
                    due("pattern", m.pattern(first, second, 0), count);
                }
            }
        }
    }

    /** Promise 7: refused if "both things are nothing or both the result". Both can be any parameter. */
    static void promise07BothNothingOrResult() {
        refused("both nothing", ARGUMENT, Bench::rich, m -> m.pattern(0, 0, 5));
        refused("both the result", ARGUMENT, Bench::rich, m -> m.pattern(2, 2, 5));
        due("both any parameter", fresh().pattern(1, 1, 5), 1);
    }

    /** Promise 7: "the number, -99 to 99"; refused if "one of them is out of range". */
    static void promise07NumberOutOfRange() {
        refusedEach("number", ARGUMENT, Bench::rich, of(-100, 100, MIN, MAX), (m, most) -> m.pattern(0, 1, most));
        RefinementMint m = withFunction(1, 0, false);
        m.findNeeds(0);
        m.setBody(0, m.name(0));
        due("the least", m.pattern(0, 1, -99), 1);
        due("the greatest", m.pattern(0, 1, 99), 2);
        due("found by both", m.allNeeds(0), 2);
        due("the least", m.doesNeed(0, -1, 0, -99), true);
        due("the greatest", m.doesNeed(0, -1, 0, 99), true);
    }

    /** Promise 7: "Throws IllegalStateException if there are 8 patterns". "Returns the number of patterns." */
    static void promise07EightPatterns() {
        RefinementMint m = withPatterns(0);
        for (int i = 1; i <= 8; i++) {
            due("pattern", m.pattern(0, 1, i), i);
            due("found by each", m.allNeeds(0), i);
        }
        refused("a ninth", STATE, () -> withPatterns(8), n -> n.pattern(0, 1, 50));
        refused("one that is told already", STATE, () -> withPatterns(8), n -> n.pattern(0, 1, 0));
        due("an eighth", withPatterns(7).pattern(0, 1, 50), 8);
    }

    private static RefinementMint withPatterns(int count) {
        RefinementMint m = withFunction(1, 0, false);
        m.findNeeds(0);
        m.setBody(0, m.name(0));
        for (int i = 0; i < count; i++) {
            m.pattern(0, 1, i);
        }
        return m;
    }

    /** Promise 7: of both exceptions, IllegalArgumentException is listed first. */
    static void promise07Order() {
        refused("a thing, with 8 patterns", ARGUMENT, () -> withPatterns(8), m -> m.pattern(3, 1, 0));
        refused("both nothing, with 8 patterns", ARGUMENT, () -> withPatterns(8), m -> m.pattern(0, 0, 0));
        refused("a number, with 8 patterns", ARGUMENT, () -> withPatterns(8), m -> m.pattern(0, 1, 100));
    }

    /** Promise 8: "Throws IndexOutOfBoundsException if there is no such function". */
    static void promise08NoSuchFunction() {
        refusedEach("function", INDEX, Bench::rich, of(-1, 4, 6, MIN, MAX), (m, f) -> m.metric(f, 0, 0, -1, 0));
        refused("no function, and no parameter", INDEX, Bench::rich, m -> m.metric(4, 9, 100, 9, 100));
        due("the last one", rich().metric(BARE, 0, 0, -1, 0), 1);
        due("the first one", rich().metric(0, 0, 0, -1, 0), 1);
    }

    /** Promise 8: "Throws IllegalArgumentException if there is no such parameter"; the second one "or -1". */
    static void promise08NoSuchParameter() {
        for (int parameters = 0; parameters <= 3; parameters++) {
            int all = parameters;
            Made made = () -> withFunction(all, 0, false);
            refusedEach("first of " + all, ARGUMENT, made, of(-2, -1, all, 3, MIN, MAX), (m, p) -> m.metric(0, p, 0, -1, 0));
            refusedEach("second of " + all, ARGUMENT, made, of(-2, all, 3, MIN, MAX), (m, p) -> m.metric(0, 0, 0, p, 0));
            if (all > 0) {
                RefinementMint m = made.make();
                due("the last one alone", m.metric(0, all - 1, 0, -1, 0), 1);
                due("the last one twice", m.metric(0, all - 1, 0, all - 1, 0), 2);
                due("the first one twice", m.metric(0, 0, 0, 0, 0), 2);
            }
        }
    }

    /** Promise 8: "the number that is added to it, -99 to 99", refused if "a number is out of range". */
    static void promise08NumberOutOfRange() {
        refusedEach("first number", ARGUMENT, Bench::rich, of(-100, 100, MIN, MAX), (m, plus) -> m.metric(SUMS, 0, plus, -1, 0));
        refusedEach("second number", ARGUMENT, Bench::rich, of(-100, 100, MIN, MAX), (m, plus) -> m.metric(JOIN, 0, 0, 1, plus));
        RefinementMint m = rich();
        due("the least", m.metric(JOIN, 0, -99, 1, -99), 2);
        due("the greatest", m.metric(JOIN, 0, 99, 1, 99), 2);
    }

    /** Promise 8: "any number without a second place". */
    static void promise08AnyNumberWithoutSecondPlace() {
        RefinementMint m = rich();
        for (int plus : of(-100, 100, MIN, MAX)) {
            due("one place", m.metric(SUMS, 0, 0, -1, plus), 1);
            due("gets less", m.isProved(SUMS, 1), true);
        }
    }

    /** Promise 8: "Sets the metric of a function, in place of another one." A call that is refused leaves the other one. */
    static void promise08InPlace() {
        RefinementMint m = rich();
        due("gets less", m.isProved(SUMS, 1), true);
        due("another one", m.metric(SUMS, 0, -1, -1, 0), 1);
        due("n - 2 may be below 0", m.isProved(SUMS, 1), false);
        fails("refused", ARGUMENT, () -> m.metric(SUMS, 0, 0, 1, 0));
        due("left", m.isProved(SUMS, 1), false);
        due("once more", m.metric(SUMS, 0, 5, -1, 0), 1);
        due("gets less again", m.isProved(SUMS, 1), true);
        due("the second place in place of one alone", m.metric(SUMS, 0, 0, 0, 0), 2);
        due("gets less", m.isProved(SUMS, 1), true);
    }

    /** Promise 9: "which it is not at first"; "Returns whether it was"; "Throws .. if there is no such function". */
    static void promise09Lazy() {
        refusedEach("function", INDEX, Bench::rich, of(-1, 4, 6, MIN, MAX), (m, f) -> m.setLazy(f, true));
        for (int f = 0; f < 4; f++) {
            RefinementMint m = rich();
            due("not at first", m.setLazy(f, true), false);
            due("from now on", m.setLazy(f, true), true);
            due("it was", m.setLazy(f, false), true);
            due("no more", m.setLazy(f, false), false);
        }
        RefinementMint m = rich();
        due("p, m, e, e", m.conditions(SUMS), 4);
        m.setLazy(SUMS, true);
        due("without m", m.conditions(SUMS), 3);
        fails("refused", INDEX, () -> m.setLazy(4, false));
        due("without m still", m.conditions(SUMS), 3);
        m.setLazy(SUMS, false);
        due("with m", m.conditions(SUMS), 4);
    }

    /** Promise 10: "Throws IndexOutOfBoundsException if there is no such function or no such term". */
    static void promise10NoSuchFunctionOrTerm() {
        refusedEach("function", INDEX, Bench::rich, of(-1, 4, 6, MIN, MAX), (m, f) -> m.setBody(f, looseOne));
        refusedEach("term", INDEX, Bench::rich, of(-1, looseFour + 1, 120, MIN, MAX), (m, t) -> m.setBody(SUMS, t));
        due("the last term, the last function", rich().setBody(BARE, looseFour), '-');
        RefinementMint m = withTerms(1);
        due("the first term, the first function", m.setBody(0, 0), 't');
        RefinementMint full = withTerms(120);
        due("the last of 120", full.setBody(0, 119), 't');
        fails("behind it", INDEX, () -> full.setBody(0, 120));
    }

    /** Promise 10: "Throws UnsupportedOperationException if the term is a part or a body already". */
    static void promise10PartOrBodyAlready() {
        refused("a part", UNSUPPORTED, Bench::rich, m -> m.setBody(BARE, partOfRich));
        refused("the body of another one", UNSUPPORTED, Bench::rich, m -> m.setBody(BARE, bodyOfRich));
        refused("its own body", UNSUPPORTED, Bench::rich, m -> m.setBody(SUMS, bodyOfRich));
        due("neither", rich().setBody(BARE, looseOne), '-');
    }

    /** Promise 10: "in place of another one, which is no body any more". */
    static void promise10InPlace() {
        RefinementMint m = rich();
        due("another one", m.setBody(SUMS, looseOne), '-');
        due("the former one can be a body, of a list", m.setBody(BARE, bodyOfRich), 't');
        fails("its parts are parts still", UNSUPPORTED, () -> m.setBody(SUMS, partOfRich));
        due("and back", m.setBody(SUMS, looseTwo), '-');
        due("can be a part", m.plus(looseOne, 1), looseFour + 1);
        due("a call that is refused leaves the body", m.run(SUMS, 9, 0, 0), 'v');
        due("the name", m.result(), 9);
    }

    /** Promise 10: IndexOutOfBoundsException is listed ahead of UnsupportedOperationException. */
    static void promise10Order() {
        refused("no function, a part", INDEX, Bench::rich, m -> m.setBody(4, partOfRich));
        refused("no function, a body", INDEX, Bench::rich, m -> m.setBody(-1, bodyOfRich));
    }

    /** Promise 10: "Returns the error of the body then, as error() tells it." A body with an error is set, too. */
    static void promise10Error() {
        RefinementMint m = rich();
        due("an error", m.setBody(SUMS, m.name(9)), 'v');
        due("is told", m.error(SUMS), 'v');
        fails("is set", UNSUPPORTED, () -> m.setBody(BARE, looseFour + 1));
        due("the former one is free", m.setBody(BARE, bodyOfRich), 't');
    }

    /** Promise 11: "the number, -99 to 99"; "Throws IllegalArgumentException if it is out of range". */
    static void promise11OutOfRange() {
        refusedEach("number", ARGUMENT, Bench::rich, of(-100, 100, MIN, MAX), RefinementMint::number);
        for (int value : of(-99, -98, -1, 0, 1, 98, 99)) {
            RefinementMint m = withFunction(0, 0, false);
            due("number", m.number(value), 0);
            due("body", m.setBody(0, 0), '-');
            due("run", m.run(0, 0, 0, 0), 'v');
            due("value", m.result(), value);
        }
    }

    /** Promise 11: "Throws IllegalStateException if there are 120 terms"; out of range is listed first. */
    static void promise11Full() {
        full((m, parts) -> m.number(5), 0);
        refused("out of range, with 120 terms", ARGUMENT, () -> withTerms(120), m -> m.number(100));
    }

    /** Promise 12: "the name, 0 to 9"; "Throws IllegalArgumentException if there is no such name". */
    static void promise12NoSuchName() {
        refusedEach("name", ARGUMENT, Bench::rich, of(-1, 10, 11, MIN, MAX), RefinementMint::name);
        for (int name = 0; name <= 9; name++) {
            RefinementMint m = withFunction(0, 0, false);
            due("name", m.setBody(0, m.let(name, m.number(7), m.name(name))), '-');
            m.run(0, 0, 0, 0);
            due("bound", m.result(), 7);
        }
    }

    /** Promise 12: "Throws IllegalStateException if there are 120 terms"; no such name is listed first. */
    static void promise12Full() {
        full((m, parts) -> m.name(9), 0);
        refused("no such name, with 120 terms", ARGUMENT, () -> withTerms(120), m -> m.name(10));
    }

    /** The 120th term finds room, and takes its parts; a 121st one finds none, and takes none. */
    private static void full(OfParts maker, int count) {
        RefinementMint last = withTerms(119);
        due("the 120th", maker.make(last, Arrays.copyOf(of(0, 1, 2, 3), count)), 119);
        due("is there", last.setBody(0, 119) == 'b', false);
        for (int i = 0; i < count; i++) {
            int part = i;
            fails("its parts are parts", UNSUPPORTED, () -> last.setBody(0, part));
        }
        fails("the 121st", STATE, last::empty);
        refused("no room", STATE, () -> withTerms(120), m -> maker.make(m, Arrays.copyOf(of(0, 1, 2, 3), count)));
    }

    private static int[] loose(int count) {
        return Arrays.copyOf(of(looseOne, looseTwo, looseThree, looseFour), count);
    }

    private static int[] with(int[] parts, int at, int value) {
        int[] changed = parts.clone();
        changed[at] = value;
        return changed;
    }

    /** Each part has to be there: from 0 to the last term that was made; below is -1, for a call -2. */
    private static void missing(OfParts maker, int count, int below) {
        rich();
        for (int at = 0; at < count; at++) {
            for (int value : of(below, looseFour + 1, 120, MIN, MAX)) {
                int place = at;
                refused("part " + at + " as " + value, INDEX, Bench::rich, m -> maker.make(m, with(loose(count), place, value)));
            }
        }
        for (int shift = 0; shift < 4; shift++) {
            int[] parts = new int[count];
            for (int i = 0; i < count; i++) {
                parts[i] = (i + shift) % 4;
            }
            due("parts from 0 to the last one", maker.make(withTerms(4), parts), 4);
        }
    }

    /** Each part must be free, and no other part's term; it is taken then. A body that was replaced is free. */
    private static void taken(OfParts maker, int count) {
        rich();
        for (int i = 0; i < count; i++) {
            int at = i;
            refused("a part as part " + at, UNSUPPORTED, Bench::rich, m -> maker.make(m, with(loose(count), at, partOfRich)));
            refused("a body as part " + at, UNSUPPORTED, Bench::rich, m -> maker.make(m, with(loose(count), at, bodyOfRich)));
            for (int j = 0; j < i; j++) {
                int other = j;
                refused("parts " + at + " and " + other, UNSUPPORTED, Bench::rich,
                        m -> maker.make(m, with(loose(count), at, loose(count)[other])));
            }
            RefinementMint m = rich();
            m.setBody(SUMS, m.number(1));
            due("no body any more", maker.make(m, with(loose(count), at, bodyOfRich)), looseFour + 2);
            for (int part : with(loose(count), at, bodyOfRich)) {
                fails("a part now", UNSUPPORTED, () -> m.setBody(BARE, part));
                fails("a part now", UNSUPPORTED, () -> m.plus(part, 1));
            }
        }
    }

    /** No such term comes ahead of a term that is taken, in whatever place, and both ahead of no room. */
    private static void order(OfParts maker, int count) {
        rich();
        int none = looseFour + 1;
        for (int i = 0; i < count; i++) {
            for (int j = 0; j < count; j++) {
                if (i != j) {
                    int[] parts = with(with(loose(count), i, none), j, partOfRich);
                    refused("no part " + i + ", a part " + j, INDEX, Bench::rich, m -> maker.make(m, parts));
                }
            }
            int at = i;
            Made full = () -> {
                RefinementMint m = withTerms(120);
                m.setBody(0, 119);
                return m;
            };
            int[] free = Arrays.copyOf(of(0, 1, 2, 3), count);
            refused("no part, with 120 terms", INDEX, full, m -> maker.make(m, with(free, at, 120)));
            refused("a body, with 120 terms", UNSUPPORTED, full, m -> maker.make(m, with(free, at, 119)));
            if (at > 0) {
                refused("the same, with 120 terms", UNSUPPORTED, full, m -> maker.make(m, with(free, at, 0)));
            }
        }
        if (count > 1) {
            refused("both no term, and the same", INDEX, Bench::rich, m -> maker.make(m, with(with(loose(count), 0, none), 1, none)));
        }
    }

    /** A wrong argument comes ahead of no such part, of a part that is taken, and of no room. */
    private static void argumentFirst(OfParts maker, int count) {
        rich();
        refused("and no part", ARGUMENT, Bench::rich, m -> maker.make(m, with(loose(count), 0, looseFour + 1)));
        refused("and a part that is taken", ARGUMENT, Bench::rich, m -> maker.make(m, with(loose(count), 0, partOfRich)));
        refused("and no room", ARGUMENT, () -> withTerms(120), m -> maker.make(m, Arrays.copyOf(of(0, 1, 2, 3), count)));
        refused("alone", ARGUMENT, Bench::rich, m -> maker.make(m, loose(count)));
    }

    private static final OfParts PLUS = (m, p) -> m.plus(p[0], 1);
    private static final OfParts SUM = (m, p) -> m.sum(p[0], p[1]);
    private static final OfParts LET = (m, p) -> m.let(5, p[0], p[1]);
    private static final OfParts CHOICE = (m, p) -> m.choice('<', p[0], p[1], p[2], p[3]);
    private static final OfParts CALL_OF_NONE = (m, p) -> m.call(0, -1, -1, -1);
    private static final OfParts CALL_OF_ONE = (m, p) -> m.call(0, p[0], -1, -1);
    private static final OfParts CALL_OF_TWO = (m, p) -> m.call(0, p[0], p[1], -1);
    private static final OfParts CALL_OF_THREE = (m, p) -> m.call(0, p[0], p[1], p[2]);
    private static final OfParts AHEAD = (m, p) -> m.ahead(p[0], p[1]);
    private static final OfParts MATCH = (m, p) -> m.match(p[0], p[1], 0, 9, p[2]);
    private static final OfParts CLAIM = (m, p) -> m.claim(p[0], p[1], 0, p[2]);

    /** Promise 13: "the number, -99 to 99"; "Throws IllegalArgumentException if the number is out of range". */
    static void promise13OutOfRange() {
        refusedEach("more", ARGUMENT, Bench::rich, of(-100, 100, MIN, MAX), (m, more) -> m.plus(looseOne, more));
        for (int more : of(-99, 0, 99)) {
            RefinementMint m = withFunction(1, 0, false);
            due("plus", m.plus(m.name(0), more), 1);
            m.setBody(0, 1);
            m.run(0, 50, 0, 0);
            due("value", m.result(), 50 + more);
        }
    }

    /** Promise 13: "Throws IndexOutOfBoundsException if there is no such term, for a part". */
    static void promise13NoSuchTerm() {
        missing(PLUS, 1, -1);
    }

    /** Promise 13: "Throws UnsupportedOperationException if a part is a part or a body already". */
    static void promise13Taken() {
        taken(PLUS, 1);
    }

    /** Promise 13: "Throws IllegalStateException if there are 120 terms". */
    static void promise13Full() {
        full(PLUS, 1);
    }

    /** Promise 13: the exceptions in their order. */
    static void promise13Order() {
        argumentFirst((m, p) -> m.plus(p[0], -100), 1);
        order(PLUS, 1);
    }

    /** Promise 14: "Throws IndexOutOfBoundsException if there is no such term, for a part". */
    static void promise14NoSuchTerm() {
        missing(SUM, 2, -1);
    }

    /** Promise 14: "Throws UnsupportedOperationException if a part is a part or a body already, or two parts are the same". */
    static void promise14Taken() {
        taken(SUM, 2);
    }

    /** Promise 14: "Throws IllegalStateException if there are 120 terms". */
    static void promise14Full() {
        full(SUM, 2);
    }

    /** Promise 14: the exceptions in their order. */
    static void promise14Order() {
        order(SUM, 2);
    }

    /** Promise 15: "the name, 0 to 9"; "Throws IllegalArgumentException if there is no such name". */
    static void promise15NoSuchName() {
        refusedEach("name", ARGUMENT, Bench::rich, of(-1, 10, MIN, MAX), (m, name) -> m.let(name, looseOne, looseTwo));
        for (int name : of(0, 9)) {
            RefinementMint m = withFunction(1, 0, false);
            due("let", m.let(name, m.number(7), m.name(name)), 2);
            m.setBody(0, 2);
            m.run(0, 50, 0, 0);
            due("bound", m.result(), 7);
        }
    }

    /** Promise 15: "Throws IndexOutOfBoundsException if there is no such term, for a part". */
    static void promise15NoSuchTerm() {
        missing(LET, 2, -1);
    }

    /** Promise 15: "Throws UnsupportedOperationException if a part is a part or a body already, or two parts are the same". */
    static void promise15Taken() {
        taken(LET, 2);
    }

    /** Promise 15: "Throws IllegalStateException if there are 120 terms". */
    static void promise15Full() {
        full(LET, 2);
    }

    /** Promise 15: the exceptions in their order. */
    static void promise15Order() {
        argumentFirst((m, p) -> m.let(10, p[0], p[1]), 2);
        order(LET, 2);
    }

    /** Promise 16: "the comparison, '<' or '='"; "Throws IllegalArgumentException if there is no such comparison". */
    static void promise16NoSuchComparison() {
        refusedEach("comparison", ARGUMENT, Bench::rich, of(0, 59, 62, '<' + 256, 65535), (m, c) -> {
            m.choice((char) (int) c, looseOne, looseTwo, looseThree, looseFour);
        });
        due("less", rich().choice('<', looseOne, looseTwo, looseThree, looseFour), looseFour + 1);
        due("the same", rich().choice('=', looseOne, looseTwo, looseThree, looseFour), looseFour + 1);
    }

    /** Promise 16: "Throws IndexOutOfBoundsException if there is no such term, for a part". */
    static void promise16NoSuchTerm() {
        missing(CHOICE, 4, -1);
    }

    /** Promise 16: "Throws UnsupportedOperationException if a part is a part or a body already, or two parts are the same". */
    static void promise16Taken() {
        taken(CHOICE, 4);
    }

    /** Promise 16: "Throws IllegalStateException if there are 120 terms". */
    static void promise16Full() {
        full(CHOICE, 4);
    }

    /** Promise 16: the exceptions in their order. */
    static void promise16Order() {
        argumentFirst((m, p) -> m.choice('>', p[0], p[1], p[2], p[3]), 4);
        order(CHOICE, 4);
    }

    /** Promise 17: "Throws NoSuchElementException if there is no such function". */
    static void promise17NoSuchFunction() {
        refusedEach("function", NONE, Bench::rich, of(-1, 4, 6, MIN, MAX), (m, f) -> m.call(f, looseOne, -1, -1));
        due("the last one", rich().call(BARE, looseOne, -1, -1), looseFour + 1);
        due("the first one", rich().call(0, looseOne, -1, -1), looseFour + 1);
    }

    /** Promise 17: "Throws IndexOutOfBoundsException if there is no such term, for a part". */
    static void promise17NoSuchTerm() {
        missing(CALL_OF_ONE, 1, -2);
        missing(CALL_OF_TWO, 2, -2);
        missing(CALL_OF_THREE, 3, -2);
        missing(CALL_OF_NONE, 0, -2);
    }

    /** Promise 17: refused if "one is there behind one that is not". */
    static void promise17BehindOneThatIsNot() {
        refused("a second one alone", INDEX, Bench::rich, m -> m.call(0, -1, looseOne, -1));
        refused("a third one alone", INDEX, Bench::rich, m -> m.call(0, -1, -1, looseOne));
        refused("a second and a third one", INDEX, Bench::rich, m -> m.call(0, -1, looseOne, looseTwo));
        refused("a third one behind the first", INDEX, Bench::rich, m -> m.call(0, looseOne, -1, looseTwo));
        due("none", rich().call(0, -1, -1, -1), looseFour + 1);
        due("the first alone", rich().call(0, looseOne, -1, -1), looseFour + 1);
        due("the first and the second", rich().call(0, looseOne, looseTwo, -1), looseFour + 1);
        due("all three", rich().call(0, looseOne, looseTwo, looseThree), looseFour + 1);
    }

    /** Promise 17: "Throws UnsupportedOperationException if a part is a part or a body already, or two parts are the same". */
    static void promise17Taken() {
        taken(CALL_OF_ONE, 1);
        taken(CALL_OF_TWO, 2);
        taken(CALL_OF_THREE, 3);
    }

    /** Promise 17: "Throws IllegalStateException if there are 120 terms". */
    static void promise17Full() {
        full(CALL_OF_NONE, 0);
        full(CALL_OF_ONE, 1);
        full(CALL_OF_TWO, 2);
        full(CALL_OF_THREE, 3);
    }

    /** Promise 17: the exceptions in their order. */
    static void promise17Order() {
        refused("no function, no term", NONE, Bench::rich, m -> m.call(4, looseFour + 1, -1, -1));
        refused("no function, one behind none", NONE, Bench::rich, m -> m.call(4, -1, looseOne, -1));
        refused("no function, a part", NONE, Bench::rich, m -> m.call(4, partOfRich, -1, -1));
        refused("no function, no room", NONE, () -> withTerms(120), m -> m.call(1, 0, -1, -1));
        refused("one behind none, a part", INDEX, Bench::rich, m -> m.call(0, -1, partOfRich, -1));
        refused("one behind none, a body", INDEX, Bench::rich, m -> m.call(0, bodyOfRich, -1, looseOne));
        refused("one behind none, no room", INDEX, () -> withTerms(120), m -> m.call(0, -1, 0, -1));
        order(CALL_OF_ONE, 1);
        order(CALL_OF_TWO, 2);
        order(CALL_OF_THREE, 3);
    }

    /** Promise 18: "Throws IllegalStateException if there are 120 terms". */
    static void promise18Full() {
        full((m, parts) -> m.empty(), 0);
        RefinementMint m = fresh();
        for (int i = 0; i < 120; i++) {
            due("term", m.empty(), i);
        }
        fails("no more", STATE, m::empty);
        fails("no more still", STATE, m::empty);
    }

    /** Promise 19: "Throws IndexOutOfBoundsException if there is no such term, for a part". */
    static void promise19NoSuchTerm() {
        missing(AHEAD, 2, -1);
    }

    /** Promise 19: "Throws UnsupportedOperationException if a part is a part or a body already, or two parts are the same". */
    static void promise19Taken() {
        taken(AHEAD, 2);
    }

    /** Promise 19: "Throws IllegalStateException if there are 120 terms". */
    static void promise19Full() {
        full(AHEAD, 2);
    }

    /** Promise 19: the exceptions in their order. */
    static void promise19Order() {
        order(AHEAD, 2);
    }

    /** Promise 20: names "0 to 9", "another one"; refused "if there is no such name, or both are the same". */
    static void promise20Names() {
        refusedEach("first", ARGUMENT, Bench::rich, of(-1, 10, MIN, MAX), (m, name) -> m.match(looseOne, looseTwo, name, 5, looseThree));
        refusedEach("rest", ARGUMENT, Bench::rich, of(-1, 10, MIN, MAX), (m, name) -> m.match(looseOne, looseTwo, 5, name, looseThree));
        refusedEach("both", ARGUMENT, Bench::rich, of(0, 5, 9), (m, name) -> m.match(looseOne, looseTwo, name, name, looseThree));
        for (int shift = 0; shift < 2; shift++) {
            int first = shift == 0 ? 0 : 9;
            RefinementMint m = withFunction(1, 1, true);
            due("match", m.match(m.name(0), m.empty(), first, 9 - first, m.name(9 - first)), 3);
            due("bound", m.setBody(0, 3), '-');
            m.run(0, 7, 0, 0);
            due("the rest", m.result(), 6);
        }
        due("side by side", rich().match(looseOne, looseTwo, 4, 5, looseThree), looseFour + 1);
    }

    /** Promise 20: "Throws IndexOutOfBoundsException if there is no such term, for a part". */
    static void promise20NoSuchTerm() {
        missing(MATCH, 3, -1);
    }

    /** Promise 20: "Throws UnsupportedOperationException if a part is a part or a body already, or two parts are the same". */
    static void promise20Taken() {
        taken(MATCH, 3);
    }

    /** Promise 20: "Throws IllegalStateException if there are 120 terms". */
    static void promise20Full() {
        full(MATCH, 3);
    }

    /** Promise 20: the exceptions in their order. */
    static void promise20Order() {
        argumentFirst((m, p) -> m.match(p[0], p[1], 10, 0, p[2]), 3);
        argumentFirst((m, p) -> m.match(p[0], p[1], 3, 3, p[2]), 3);
        order(MATCH, 3);
    }

    /** Promise 21: "the number, -99 to 99"; "Throws IllegalArgumentException if the number is out of range". */
    static void promise21OutOfRange() {
        refusedEach("most", ARGUMENT, Bench::rich, of(-100, 100, MIN, MAX), (m, most) -> m.claim(looseOne, looseTwo, most, looseThree));
        for (int most : of(-99, 0, 99)) {
            RefinementMint m = withFunction(2, 0, false);
            m.setBody(0, m.claim(m.name(0), m.name(1), most, m.number(1)));
            int first = most > 0 ? 99 : 0;
            due("holds", m.run(0, first, first - most, 0), 'v');
            due("one less", m.run(0, first, first - most - 1, 0), 'a');
        }
    }

    /** Promise 21: "Throws IndexOutOfBoundsException if there is no such term, for a part". */
    static void promise21NoSuchTerm() {
        missing(CLAIM, 3, -1);
    }

    /** Promise 21: "Throws UnsupportedOperationException if a part is a part or a body already, or two parts are the same". */
    static void promise21Taken() {
        taken(CLAIM, 3);
    }

    /** Promise 21: "Throws IllegalStateException if there are 120 terms". */
    static void promise21Full() {
        full(CLAIM, 3);
    }

    /** Promise 21: the exceptions in their order. */
    static void promise21Order() {
        argumentFirst((m, p) -> m.claim(p[0], p[1], 100, p[2]), 3);
        order(CLAIM, 3);
    }

    /** Promise 22: "Throws IndexOutOfBoundsException if there is no such function". */
    static void promise22NoSuchFunction() {
        refusedEach("function", INDEX, Bench::rich, of(-1, 4, 6, MIN, MAX), RefinementMint::error);
        due("the first one", rich().error(SUMS), '-');
        due("the last one", rich().error(BARE), 'b');
        RefinementMint m = six();
        due("the sixth", m.error(5), 'b');
        fails("behind it", INDEX, () -> m.error(6));
    }

    /** Promise 22: "Returns 'b', 'v', 't', 'c' or 's', or '-' if it has none." */
    static void promise22EachError() {
        RefinementMint m = withFunction(1, 0, false);
        due("no body", m.error(0), 'b');
        m.setBody(0, m.name(1));
        due("not bound", m.error(0), 'v');
        m.setBody(0, m.empty());
        due("a list", m.error(0), 't');
        m.setBody(0, m.call(0, -1, -1, -1));
        due("few parts", m.error(0), 'c');
        m.setBody(0, row(m, 20));
        due("none", m.error(0), '-');
        RefinementMint n = withFunction(1, 0, false);
        n.setBody(0, n.sum(row(n, 6), row(n, 7)));
        due("42 ways", n.error(0), 's');
    }

    /** Promise 23: "Throws IndexOutOfBoundsException if there is no such function". */
    static void promise23NoSuchFunction() {
        refusedEach("function", INDEX, Bench::rich, of(-1, 4, 6, MIN, MAX), RefinementMint::errorAt);
    }

    /** Promise 23: "Throws NoSuchElementException if it has none, or the error is 'b'". */
    static void promise23None() {
        refused("no error", NONE, Bench::rich, m -> m.errorAt(SUMS));
        refused("no body", NONE, Bench::rich, m -> m.errorAt(BARE));
        RefinementMint m = rich();
        for (int term : of(m.name(9), m.call(BARE, -1, -1, -1))) {
            m.setBody(BARE, term);
            due("the term of an error", m.errorAt(BARE), term);
        }
        int list = m.empty();
        m.setBody(BARE, list);
        due("the body", m.errorAt(BARE), list);
        RefinementMint n = withFunction(1, 0, false);
        int many = n.sum(row(n, 6), row(n, 7));
        n.setBody(0, many);
        due("the body with 42 ways", n.errorAt(0), many);
        n.setBody(0, n.number(1));
        fails("none any more", NONE, () -> n.errorAt(0));
    }

    /** Promise 24: "Throws IndexOutOfBoundsException .."; "Throws IllegalStateException if its body has an error, or it has no body". */
    static void promise24Refused() {
        refusedEach("function", INDEX, Bench::rich, of(-1, 4, 6, MIN, MAX), RefinementMint::ways);
        refused("an error", STATE, Bench::rich, m -> m.ways(WRONG));
        refused("no body", STATE, Bench::rich, m -> m.ways(BARE));
        due("the first one", rich().ways(SUMS), 2);
    }

    /** Promise 24: "Returns the number of ways": from 1 to 40. */
    static void promise24From1To40() {
        RefinementMint m = withFunction(1, 0, false);
        m.setBody(0, m.number(1));
        due("one", m.ways(0), 1);
        m.setBody(0, m.sum(row(m, 5), row(m, 8)));
        due("forty", m.ways(0), 40);
    }

    /** Promise 25: what is refused, as for promise 24. */
    static void promise25Refused() {
        refusedEach("function", INDEX, Bench::rich, of(-1, 4, 6, MIN, MAX), RefinementMint::conditions);
        refused("an error", STATE, Bench::rich, m -> m.conditions(WRONG));
        refused("no body", STATE, Bench::rich, m -> m.conditions(BARE));
    }

    /** Promise 25: "Returns the number of conditions": none at all, and some. */
    static void promise25NoneAndSome() {
        due("some", rich().conditions(SUMS), 4);
        due("only those that are told", rich().conditions(JOIN), 1);
        RefinementMint m = withFunction(0, 0, false);
        m.setBody(0, m.number(1));
        due("none", m.conditions(0), 0);
    }

    /** Promise 25: as many conditions as 40 ways have: the first and the last one, and none behind it. */
    static void promise25AsManyAsThereCanBe() {
        RefinementMint m = withFunction(1, 0, false);
        m.addFunction(1, 0, false);
        for (int i = 0; i < 4; i++) {
            m.needs(0, 0, -1, 5 + i);
            m.gives(1, 3, -1, i);
        }
        int calls = m.call(0, m.number(5), -1, -1);
        for (int i = 1; i < 24; i++) {
            calls = m.sum(calls, m.call(0, m.number(i == 23 ? 8 : 5), -1, -1));
        }
        m.setBody(1, m.sum(m.sum(row(m, 5), row(m, 8)), calls));
        int all = 40 * (24 * 4 + 4);
        due("all", m.conditions(1), all);
        due("the first one", m.kindOf(1, 0), 'p');
        due("proved", m.isProved(1, 0), true);
        due("of the last call", m.kindOf(1, all - 5), 'p');
        due("8 is at most 8", m.isProved(1, all - 5), true);
        due("8 is not at most 7", m.isProved(1, all - 6), false);
        due("the last one", m.kindOf(1, all - 1), 'e');
        due("not proved", m.isProved(1, all - 1), false);
        fails("none behind it", NONE, () -> m.kindOf(1, all));
        due("of all functions", m.allConditions(), all);
        // on three ways numbers are left: those below 4, from 4 to 6, and from 7 on
        dueReal("proved share", m.provedShare(), (float) (all - 3 * (3 + 4)) / (float) all);
    }

    private interface OfCondition {
        Object ask(RefinementMint m, int function, int index);
    }

    /** An index of a condition is from 0 to one less than there are; the exceptions come in their order. */
    private static void index(OfCondition ask) {
        for (int f : of(-1, 4, 6, MIN, MAX)) {
            refused("function " + f, INDEX, Bench::rich, m -> ask.ask(m, f, 0));
        }
        refused("no function, no condition", INDEX, Bench::rich, m -> ask.ask(m, 4, -1));
        for (int i : of(0, -1)) {
            refused("an error", STATE, Bench::rich, m -> ask.ask(m, WRONG, i));
            refused("no body", STATE, Bench::rich, m -> ask.ask(m, BARE, i));
        }
        for (int i : of(-1, 4, 5, MIN, MAX)) {
            refused("index " + i, NONE, Bench::rich, m -> ask.ask(m, SUMS, i));
        }
        for (int i : of(-1, 1, MIN, MAX)) {
            refused("index of the second one " + i, NONE, Bench::rich, m -> ask.ask(m, JOIN, i));
        }
        Made none = () -> {
            RefinementMint m = withFunction(0, 0, false);
            m.setBody(0, m.number(1));
            return m;
        };
        refused("of no conditions", NONE, none, m -> ask.ask(m, 0, 0));
    }

    /** Promise 26: "from 0"; "Throws .. if there is no such condition", no function, an error. "Returns 'p', 'm', 'a' or 'e'." */
    static void promise26Index() {
        index(RefinementMint::kindOf);
        RefinementMint m = rich();
        due("the first one", m.kindOf(SUMS, 0), 'p');
        due("the second one", m.kindOf(SUMS, 1), 'm');
        due("the last one", m.kindOf(SUMS, 3), 'e');
        m.setBody(SUMS, m.claim(m.name(0), m.number(1), 0, m.number(1)));
        due("a claim", m.kindOf(SUMS, 0), 'a');
    }

    /** Promise 27: "the call, the claim, or the body for the end"; what is refused. */
    static void promise27Index() {
        index(RefinementMint::termOf);
        RefinementMint m = rich();
        due("the call", m.termOf(SUMS, 0), partOfRich);
        due("the call", m.termOf(SUMS, 1), partOfRich);
        due("the body", m.termOf(SUMS, 2), bodyOfRich);
        due("the body", m.termOf(SUMS, 3), bodyOfRich);
        RefinementMint n = withTerms(0);
        int part = n.number(0);
        int claim = n.claim(n.name(0), part, 0, n.number(1));
        n.setBody(0, n.plus(claim, 1));
        due("the claim", n.termOf(0, 0), claim);
    }

    /** Promise 27: a term from 0 to 119. */
    static void promise27FirstAndLastTerm() {
        RefinementMint m = fresh();
        m.addFunction(0, 0, false);
        due("the first term", m.call(0, -1, -1, -1), 0);
        m.setBody(0, 0);
        due("at the first term", m.termOf(0, 0), 0);
        for (int i = 1; i < 119; i++) {
            m.number(0);
        }
        due("the last term", m.call(0, -1, -1, -1), 119);
        m.setBody(0, 119);
        due("at the last term", m.termOf(0, 0), 119);
    }

    /** Promise 28: what is refused. */
    static void promise28Index() {
        index(RefinementMint::isProved);
        RefinementMint m = rich();
        due("the first one", m.isProved(SUMS, 0), true);
        due("one that is not", m.isProved(SUMS, 2), false);
        due("the last one", m.isProved(SUMS, 3), true);
    }

    /** Promise 29: what is refused; no facts at all, and some. */
    static void promise29Index() {
        index(RefinementMint::facts);
        RefinementMint m = rich();
        due("the first one", m.facts(SUMS, 0), 2);
        due("the last one", m.facts(SUMS, 3), 2);
        RefinementMint n = withFunction(1, 0, false);
        n.setBody(0, n.claim(n.name(0), n.number(1), 0, n.number(1)));
        due("none", n.facts(0, 0), 0);
    }

    /** Promise 30: what is refused; "Throws UnsupportedOperationException if it is not proved". */
    static void promise30Index() {
        index(RefinementMint::needed);
        refused("not proved", UNSUPPORTED, Bench::rich, m -> m.needed(SUMS, 2));
        RefinementMint m = rich();
        due("one fact", m.needed(SUMS, 0), 1);
        due("no facts", m.needed(SUMS, 3), 0);
        m.metric(SUMS, 0, -1, -1, 0);
        fails("not proved any more", UNSUPPORTED, () -> m.needed(SUMS, 1));
    }

    /** Promise 31: "the place among those that are needed, from 0"; "or it needs no such fact". */
    static void promise31Place() {
        index((m, f, i) -> m.neededAt(f, i, 0));
        refusedEach("place of one", NONE, Bench::rich, of(-1, 1, 2, MIN, MAX), (m, place) -> m.neededAt(SUMS, 0, place));
        refusedEach("place of none", NONE, Bench::rich, of(-1, 0, 1, MIN, MAX), (m, place) -> m.neededAt(SUMS, 3, place));
        due("the only one", rich().neededAt(SUMS, 0, 0), 1);
        RefinementMint m = withFunction(3, 0, false);
        m.needs(0, 0, 1, 0);
        m.needs(0, 0, 2, 1);
        m.needs(0, 1, 2, 0);
        m.setBody(0, m.claim(m.name(0), m.name(2), 0, m.number(0)));
        due("all but the one between", m.needed(0, 0), 2);
        due("first", m.neededAt(0, 0, 0), 0);
        due("last", m.neededAt(0, 0, 1), 2);
        fails("behind", NONE, () -> m.neededAt(0, 0, 2));
    }

    /** Promise 31: "Throws UnsupportedOperationException if it is not proved". */
    static void promise31NotProved() {
        refused("not proved", UNSUPPORTED, Bench::rich, m -> m.neededAt(SUMS, 2, 0));
        refused("no condition comes ahead", NONE, Bench::rich, m -> m.neededAt(SUMS, 4, 0));
    }

    /** Promise 32: what is refused; "no such parameter". */
    static void promise32Parameter() {
        index((m, f, i) -> m.example(f, i, 0));
        refusedEach("parameter of one", NONE, Bench::rich, of(-1, 1, 2, 3, MIN, MAX), (m, p) -> m.example(SUMS, 2, p));
        due("the only one", rich().example(SUMS, 2, 0), 1);
        for (int parameters = 0; parameters <= 3; parameters++) {
            RefinementMint m = withFunction(parameters, 0, false);
            m.setBody(0, m.claim(m.number(1), m.number(0), 0, m.number(0)));
            for (int p = 0; p < parameters; p++) {
                due("parameter", m.example(0, 0, p), 0);
            }
            int all = parameters;
            fails("the first that is not there", NONE, () -> m.example(0, 0, all));
            fails("nothing", NONE, () -> m.example(0, 0, -1));
        }
    }

    /** Promise 32: "or no example": the condition is proved, is an 'm' without metrics, or its numbers are too far. */
    static void promise32NoExample() {
        refused("proved", NONE, Bench::rich, m -> m.example(SUMS, 0, 0));
        RefinementMint m = withFunction(1, 0, false);
        m.setBody(0, m.call(0, m.name(0), -1, -1));
        fails("without a metric", NONE, () -> m.example(0, 0, 0));
        m.metric(0, 0, 0, -1, 0);
        due("with a metric", m.example(0, 0, 0), 0);
    }

    /** Promise 33: what is refused. */
    static void promise33Index() {
        index(RefinementMint::isReal);
        refused("proved", NONE, Bench::rich, m -> m.isReal(SUMS, 0));
        RefinementMint m = withFunction(1, 0, false);
        m.setBody(0, m.call(0, m.name(0), -1, -1));
        fails("without a metric", NONE, () -> m.isReal(0, 0));
        m.metric(0, 0, 0, -1, 0);
        due("never a check", m.isReal(0, 0), false);
    }

    /** Promise 33: "these numbers, which may be less than -99 or greater than 99 here". */
    static void promise33BeyondSmallNumbers() {
        for (int sign = -1; sign <= 1; sign += 2) {
            for (int far : of(98, 99, 100, 599)) {
                RefinementMint m = withFunction(1, 0, false);
                int most = great(m, sign * far);
                int first = sign > 0 ? m.name(0) : most;
                m.setBody(0, m.claim(first, first == most ? m.name(0) : most, 0, m.number(0)));
                due("example", m.example(0, 0, 0), sign * (far + 1));
                due("real", m.isReal(0, 0), true);
            }
        }
    }

    /** Promise 33: "these numbers, which may be .. greater than 99 here": a list of as many zeros, up to 600. */
    static void promise33LongLists() {
        for (int far : of(99, 100, 599, 600)) {
            RefinementMint m = withFunction(2, 2, false);
            m.setBody(0, m.claim(m.name(1), great(m, far), 0, m.number(0)));
            if (far < 600) {
                due("example", m.example(0, 0, 1), far + 1);
                due("real", m.isReal(0, 0), true);
                m.setBody(0, m.match(m.name(1), m.number(0), 3, 4, m.claim(m.name(4), great(m, far - 1), 0, m.name(3))));
                due("example of its rest", m.example(0, 0, 1), far + 1);
                due("real", m.isReal(0, 0), true);
            } else {
                fails("no example", NONE, () -> m.isReal(0, 0));
            }
        }
    }

    /** Promises 32 and 33: a proved condition of a function without parameters has no example, one that is not proved has. */
    static void promise33WithoutParameters() {
        for (int most = 0; most <= 1; most++) {
            RefinementMint m = withFunction(0, 0, false);
            m.setBody(0, m.claim(m.number(1), m.number(0), most, m.number(0)));
            due("proved", m.isProved(0, 0), most == 1);
            if (most == 1) {
                fails("no example", NONE, () -> m.isReal(0, 0));
            } else {
                due("ends by the claim", m.isReal(0, 0), true);
            }
            fails("no parameter", NONE, () -> m.example(0, 0, 0));
        }
        RefinementMint n = withFunction(0, 0, false);
        n.setBody(0, n.call(0, -1, -1, -1));
        due("an 'm'", n.kindOf(0, 0), 'm');
        fails("has none without a metric", NONE, () -> n.isReal(0, 0));
    }

    /** Promise 33: "whether the function can be run", and ends "by a check of the same kind". */
    static void promise33CanBeRunAndSameKind() {
        RefinementMint m = withFunction(1, 0, false);
        m.addFunction(0, 0, false);
        m.setBody(0, m.claim(m.name(0), m.number(0), -1, m.call(1, -1, -1, -1)));
        due("can not be run", m.isReal(0, 0), false);
        m.setBody(1, m.number(1));
        due("can be run", m.isReal(0, 0), true);
        m.setBody(1, m.name(0));
        due("can not be run again", m.isReal(0, 0), false);
        RefinementMint n = withFunction(1, 0, false);
        n.gives(0, 3, -1, -1);
        n.setBody(0, n.sum(n.claim(n.name(0), n.number(0), 5, n.name(0)), n.number(0)));
        due("a claim", n.kindOf(0, 0), 'a');
        due("ends by the claim", n.isReal(0, 0), true);
        due("the end", n.kindOf(0, 1), 'e');
        due("ends by the end", n.isReal(0, 1), true);
        n.setBody(0, n.claim(n.sum(n.name(0), n.number(9)), n.number(9), -1, n.number(0)));
        due("a claim, with 0", n.isReal(0, 0), true);
        due("the end, with 0, that ends by the claim", n.isReal(0, 1), false);
    }

    /** Promise 33: a run for an example is no run of run() or runFew(). */
    static void promise33LeavesTheLastRun() {
        RefinementMint m = rich();
        int checks = m.checks();
        int steps = m.steps();
        m.isReal(SUMS, 2);
        due("checks", m.checks(), checks);
        due("steps", m.steps(), steps);
        due("value", m.result(), 6);
    }

    /** Promise 34: "Throws IndexOutOfBoundsException .."; none, and many. */
    static void promise34NoSuchFunction() {
        refusedEach("function", INDEX, Bench::rich, of(-1, 4, 6, MIN, MAX), RefinementMint::allNeeds);
        due("the first one", rich().allNeeds(SUMS), 1);
        due("the last one", rich().allNeeds(BARE), 1);
        due("none", rich().allNeeds(WRONG), 0);
        due("four", told(4, true).allNeeds(0), 4);
    }

    /** Promise 34: as many as can be found, by 8 patterns for 3 parameters. */
    static void promise34MostFound() {
        RefinementMint m = withFunction(3, 0, false);
        m.findNeeds(0);
        m.findGives(0);
        for (int i = 0; i < 8; i++) {
            m.pattern(1, 1, i);
        }
        m.setBody(0, m.name(0));
        due("needs", m.allNeeds(0), 48);
        due("gives", m.allGives(0), 48);
        due("the first one", m.doesNeed(0, 0, 1, 0), true);
        due("the last one", m.doesNeed(0, 2, 1, 7), true);
        due("none behind it", m.doesNeed(0, 2, 1, 8), false);
        due("sound", m.isSound(), true);
    }

    /** Promise 35: "Throws IndexOutOfBoundsException if there is no such function"; any thing and any number may be asked. */
    static void promise35AnyThing() {
        refusedEach("function", INDEX, Bench::rich, of(-1, 4, 6, MIN, MAX), (m, f) -> m.doesNeed(f, 0, -1, 0));
        refused("no function, no thing", INDEX, Bench::rich, m -> m.doesNeed(4, 9, 9, 1000));
        RefinementMint m = told(0, true);
        m.needs(0, 0, -1, 5);
        due("the atom", m.doesNeed(0, 0, -1, 5), true);
        for (int most : of(4, 6, 5 + 256, 5 - 256, 5 + (1 << 16), MIN, MAX, MIN + 5, MAX + 6)) {
            due("another number " + most, m.doesNeed(0, 0, -1, most), most == 5);
        }
        for (int thing : of(-2, -1, 1, 2, 3, 4, 5, 256, MIN, MAX, 1 << 30)) {
            due("another first thing", m.doesNeed(0, thing, -1, 5), false);
            due("another second thing", m.doesNeed(0, 0, thing, 5), thing == -1);
        }
        due("what wraps to it", m.doesNeed(0, 0, -2, 5 + 256), false);
        due("what wraps to it", m.doesNeed(0, -1, 4, 5), false);
        due("what wraps to it", m.doesNeed(0, 1, -6, 5), false);
    }

    /** Promise 36: "Throws IndexOutOfBoundsException .."; none, and many. */
    static void promise36NoSuchFunction() {
        refusedEach("function", INDEX, Bench::rich, of(-1, 4, 6, MIN, MAX), RefinementMint::allGives);
        due("the first one", rich().allGives(SUMS), 1);
        due("none", rich().allGives(BARE), 0);
        due("four", told(4, false).allGives(0), 4);
    }

    /** Promise 37: "Throws IndexOutOfBoundsException if there is no such function"; any thing and any number may be asked. */
    static void promise37AnyThing() {
        refusedEach("function", INDEX, Bench::rich, of(-1, 4, 6, MIN, MAX), (m, f) -> m.doesGive(f, 3, -1, 0));
        refused("no function, no thing", INDEX, Bench::rich, m -> m.doesGive(4, 9, 9, 1000));
        RefinementMint m = told(0, false);
        m.gives(0, 3, 0, -5);
        due("the atom", m.doesGive(0, 3, 0, -5), true);
        for (int most : of(-4, -6, -5 + 256, -5 - 256, MIN, MAX)) {
            due("another number " + most, m.doesGive(0, 3, 0, most), false);
        }
        for (int thing : of(-2, -1, 0, 1, 2, 4, 5, MIN, MAX)) {
            due("another first thing", m.doesGive(0, thing, 0, -5), false);
        }
        for (int thing : of(-2, -1, 1, 2, 3, 4, 5, MIN, MAX)) {
            due("another second thing", m.doesGive(0, 3, thing, -5), false);
        }
        due("what wraps to it", m.doesGive(0, 4, -5, -5), false);
        due("what wraps to it", m.doesGive(0, 3, -1, -5 + 256), false);
    }

    /** Promise 38: "Throws IndexOutOfBoundsException .."; "false if the body has an error". */
    static void promise38Ring() {
        refusedEach("function", INDEX, Bench::rich, of(-1, 4, 6, 31, 32, MIN, MAX), RefinementMint::isInRing);
        RefinementMint m = six();
        for (int i = 0; i < 6; i++) {
            m.setBody(i, m.call((i + 1) % 6, m.name(0), -1, -1));
        }
        due("the first of six", m.isInRing(0), true);
        due("the last of six", m.isInRing(5), true);
        m.setBody(3, m.name(9));
        for (int i = 0; i < 6; i++) {
            due("broken", m.isInRing(i), false);
        }
        m.setBody(4, m.call(4, m.name(0), -1, -1));
        due("itself", m.isInRing(4), true);
        due("only comes to one", m.isInRing(3), false);
        m.setBody(4, m.sum(m.call(4, m.name(0), -1, -1), m.name(1)));
        due("with an error", m.isInRing(4), false);
    }

    private interface Run {
        char run(RefinementMint m, int function, int first, int second, int third);
    }

    private static Run ran(boolean isFew) {
        return (m, f, a, b, c) -> isFew ? m.runFew(f, a, b, c) : m.run(f, a, b, c);
    }

    private static void runParameters(Run run) {
        for (int f : of(-1, 4, 6, MIN, MAX)) {
            refused("function " + f, INDEX, Bench::rich, m -> run.run(m, f, 0, 0, 0));
        }
        for (int value : of(-100, 100, MIN, MAX)) {
            refused("first " + value, ARGUMENT, Bench::rich, m -> run.run(m, SUMS, value, 0, 0));
            for (int place = 0; place < 3; place++) {
                int at = place;
                refused("place " + at, ARGUMENT, PromiseBoundaryTest::three,
                        m -> run.run(m, 0, at == 0 ? value : 1, at == 1 ? value : 1, at == 2 ? value : 1));
            }
        }
        for (int value : of(-99, 99)) {
            RefinementMint m = three();
            due("in range", run.run(m, 0, value, 0, 0), 'v');
            due("first", m.result(), value);
            due("in range", run.run(m, 0, 0, value, 0), 'v');
            due("second", m.result(), value);
            due("in range", run.run(m, 0, 0, 0, value), 'v');
            due("third", m.result(), value);
        }
        for (int value : of(-1, -99, -100, 100)) {
            refused("a list " + value, ARGUMENT, Bench::rich, m -> run.run(m, JOIN, value, 0, 0));
        }
        RefinementMint m = withFunction(1, 1, true);
        m.setBody(0, m.name(0));
        for (int value : of(0, 1, 99)) {
            due("a list", run.run(m, 0, value, 0, 0), 'v');
            due("its length", m.result(), value);
        }
        for (int value : of(100, -100, MIN, MAX)) {
            due("of no meaning", run.run(m, 0, 1, value, value), 'v');
        }
        RefinementMint n = withFunction(0, 0, false);
        n.setBody(0, n.number(3));
        due("of no meaning at all", run.run(n, 0, MIN, MAX, -1), 'v');
    }

    /** A function of three numbers, which gives their sum. */
    private static RefinementMint three() {
        RefinementMint m = withFunction(3, 0, false);
        m.setBody(0, m.sum(m.name(0), m.sum(m.name(1), m.name(2))));
        m.run(0, 1, 2, 3);
        return m;
    }

    private static void runState(Run run) {
        refused("an error", STATE, Bench::rich, m -> run.run(m, WRONG, 0, 0, 0));
        refused("no body", STATE, Bench::rich, m -> run.run(m, BARE, 0, 0, 0));
        RefinementMint m = fresh();
        for (int i = 0; i < 6; i++) {
            m.addFunction(0, 0, false);
        }
        for (int i = 0; i < 5; i++) {
            m.setBody(i, m.call(i + 1, -1, -1, -1));
        }
        fails("the sixth has no body", STATE, () -> run.run(m, 0, 0, 0, 0));
        m.setBody(5, m.name(0));
        fails("the sixth has an error", STATE, () -> run.run(m, 0, 0, 0, 0));
        m.setBody(5, m.number(8));
        due("all have bodies", run.run(m, 0, 0, 0, 0), 'v');
        due("value", m.result(), 8);
        fails("none comes to the first one, which is asked", STATE, () -> {
            m.setBody(0, m.name(0));
            return run.run(m, 0, 0, 0, 0);
        });
        due("nor to it from the second one", run.run(m, 1, 0, 0, 0), 'v');
        m.setBody(5, m.choice('<', m.number(0), m.number(1), m.number(8), m.call(0, -1, -1, -1)));
        fails("the second one comes to the first one", STATE, () -> run.run(m, 1, 0, 0, 0));
        m.setBody(0, m.call(1, -1, -1, -1));
        due("all have bodies", run.run(m, 0, 0, 0, 0), 'v');
        m.setBody(4, m.choice('<', m.number(0), m.number(1), m.number(1), m.call(3, -1, -1, -1)));
        m.setBody(5, m.name(0));
        due("does not come to the sixth any more", run.run(m, 0, 0, 0, 0), 'v');
        m.setBody(3, m.choice('<', m.number(0), m.number(1), m.number(1), m.call(5, -1, -1, -1)));
        fails("can come to it, if it would not", STATE, () -> run.run(m, 0, 0, 0, 0));
        due("the last run is left", m.result(), 1);
    }

    private static void runOrder(Run run) {
        refused("no function, a number", INDEX, Bench::rich, m -> run.run(m, 4, 100, 0, 0));
        refused("a number, no body", ARGUMENT, Bench::rich, m -> run.run(m, BARE, 100, 0, 0));
        refused("a list, no body", ARGUMENT, Bench::rich, m -> run.run(m, BARE, -1, 0, 0));
        refused("the second list, no body", ARGUMENT, Bench::rich, m -> run.run(m, BARE, 0, 0, -1));
    }

    /** Promise 39: "-99 to 99; a list has no fewer than 0"; "those that it does not have are of no meaning". */
    static void promise39Parameters() {
        runParameters(ran(false));
    }

    /** Promise 39: "Throws IllegalStateException if its body, or that of a function that it can come to by calls, has an error, or is not there". */
    static void promise39State() {
        runState(ran(false));
    }

    /** Promise 39: the exceptions in their order. */
    static void promise39Order() {
        runOrder(ran(false));
    }

    /** Promise 40: "-99 to 99; a list has no fewer than 0"; "those that it does not have are of no meaning". */
    static void promise40Parameters() {
        runParameters(ran(true));
    }

    /** Promise 40: "Throws IllegalStateException if its body, or that of a function that it can come to by calls, has an error, or is not there". */
    static void promise40State() {
        runState(ran(true));
    }

    /** Promise 40: the exceptions in their order. */
    static void promise40Order() {
        runOrder(ran(true));
    }

    /** An object with functions whose runs end in each way: 0 'v' or 'p', 1 'a', 2 'e', 3 'l', 4 'o'. */
    private static RefinementMint ends() {
        RefinementMint m = fresh();
        for (int i = 0; i < 5; i++) {
            m.addFunction(1, 0, false);
        }
        m.needs(0, 0, -1, 50);
        m.setBody(0, m.name(0));
        m.setBody(1, m.claim(m.number(1), m.number(0), 0, m.number(0)));
        m.gives(2, 3, -1, 3);
        m.setBody(2, m.number(4));
        m.setBody(3, m.call(3, m.name(0), -1, -1));
        int term = m.number(99);
        for (int i = 0; i < 14; i++) {
            term = m.let(3, term, m.sum(m.name(3), m.name(3)));
        }
        m.setBody(4, term);
        return m;
    }

    /** Promise 41: "Throws NoSuchElementException if it did not end with a value, or there was none". */
    static void promise41NoValue() {
        refused("no run", NONE, PromiseBoundaryTest::ends, RefinementMint::result);
        char[] ends = {'p', 'a', 'e', 'l', 'o'};
        for (int few = 0; few < 2; few++) {
            Run run = ran(few == 1);
            for (int i = 0; i < 5; i++) {
                RefinementMint m = ends();
                due("a value", run.run(m, 0, 50, 0, 0), 'v');
                due("the value", m.result(), 50);
                due("ends", run.run(m, i, 51, 0, 0), ends[i]);
                fails("no value of " + ends[i], NONE, m::result);
                fails("no value still", NONE, m::result);
                due("a value again", run.run(m, 0, 50, 0, 0), 'v');
                due("the value", m.result(), 50);
            }
        }
        RefinementMint m = ends();
        fails("refused", ARGUMENT, () -> m.run(0, 100, 0, 0));
        fails("no run yet", NONE, m::result);
    }

    /** Promise 42: "how many atoms were checked in the last run", "the last one included". */
    static void promise42Checks() {
        RefinementMint m = withFunction(1, 0, false);
        due("no run", m.checks(), 0);
        m.needs(0, 0, -1, 1);
        m.needs(0, 0, -1, 2);
        m.gives(0, 3, -1, 0);
        m.gives(0, 3, 0, 0);
        m.setBody(0, m.claim(m.name(0), m.number(0), 0, m.name(0)));
        due("the first of two does not hold", m.run(0, 2, 0, 0), 'p');
        due("one", m.checks(), 1);
        due("the claim does not hold", m.run(0, 1, 0, 0), 'a');
        due("two and one", m.checks(), 3);
        due("all hold", m.run(0, 0, 0, 0), 'v');
        due("two, one and two", m.checks(), 5);
        fails("refused", ARGUMENT, () -> m.run(0, 100, 0, 0));
        due("of the last run still", m.checks(), 5);
        RefinementMint n = withFunction(0, 0, false);
        n.setBody(0, n.number(1));
        n.run(0, 0, 0, 0);
        due("none", n.checks(), 0);
    }

    /** Promise 43: "how many steps the last run had", from none to 400. */
    static void promise43Steps() {
        RefinementMint m = withFunction(1, 0, false);
        due("no run", m.steps(), 0);
        m.needs(0, 0, -1, 0);
        m.setBody(0, m.name(0));
        due("ends ahead of the body", m.run(0, 1, 0, 0), 'p');
        due("none", m.steps(), 0);
        due("one term", m.run(0, 0, 0, 0), 'v');
        due("one", m.steps(), 1);
        fails("refused", ARGUMENT, () -> m.run(0, 100, 0, 0));
        due("of the last run still", m.steps(), 1);
    }

    /** Promise 44: "the number of conditions of all functions without errors": none, and all together. */
    static void promise44All() {
        due("none", fresh().allConditions(), 0);
        RefinementMint m = rich();
        due("four and one", m.allConditions(), 5);
        m.setBody(SUMS, m.name(9));
        due("one", m.allConditions(), 1);
        m.setBody(JOIN, m.name(9));
        due("none", m.allConditions(), 0);
        RefinementMint n = fresh();
        for (int i = 0; i < 6; i++) {
            n.addFunction(0, 0, false);
            n.gives(i, 3, -1, 0);
            due("without a body", n.allConditions(), i);
            n.setBody(i, n.number(0));
            due("with a body", n.allConditions(), i + 1);
        }
    }

    /** Promise 45: "Throws ArithmeticException if there are none"; "both converted to float". */
    static void promise45Share() {
        Made none = () -> withFunction(1, 0, false);
        refused("none", ARITHMETIC, none, RefinementMint::provedShare);
        RefinementMint m = none.make();
        m.setBody(0, m.number(1));
        fails("no conditions", ARITHMETIC, m::provedShare);
        m.gives(0, 3, -1, 0);
        dueReal("none of one", m.provedShare(), 0);
        m.gives(0, 3, -1, 1);
        dueReal("one of two", m.provedShare(), 0.5);
        m.gives(0, 3, -1, 2);
        dueReal("two of three, as a float", m.provedShare(), 2f / 3f);
        m.findGives(0);
        m.gives(0, 3, -1, 1);
        dueReal("one of one", m.provedShare(), 1);
    }

    /** Promise 46: "Throws ArithmeticException if there are none", of proved conditions; "both converted to double". */
    static void promise46Mean() {
        Made none = () -> {
            RefinementMint m = withFunction(1, 0, false);
            m.gives(0, 3, -1, 0);
            m.setBody(0, m.number(1));
            return m;
        };
        refused("none is proved", ARITHMETIC, none, RefinementMint::meanNeeded);
        fails("none is there", ARITHMETIC, () -> fresh().meanNeeded());
        RefinementMint m = none.make();
        m.gives(0, 3, -1, 1);
        dueReal("one without facts", m.meanNeeded(), 0);
        m.needs(0, 0, -1, 0);
        m.gives(0, 0, -1, 0);
        dueReal("one of two with a fact", m.meanNeeded(), 0.5);
        m.gives(0, 3, -1, 2);
        dueReal("one of three, as a double", m.meanNeeded(), 1.0 / 3.0);
        m.addFunction(1, 0, false);
        m.gives(1, 3, -1, 0);
        m.gives(1, 3, -1, 1);
        m.setBody(1, m.choice('<', m.name(0), m.number(0), m.number(0), m.number(1)));
        m.addFunction(1, 0, false);
        m.needs(2, -1, 0, 0);
        m.gives(2, -1, 0, 0);
        m.setBody(2, m.name(0));
        dueReal("two of seven, one of them behind all", m.meanNeeded(), 2.0 / 7.0);
        m.setBody(1, m.name(9));
        dueReal("none of a function with an error between them", m.meanNeeded(), 2.0 / 4.0);
        m.findGives(0);
        m.pattern(1, 0, 50);
        m.pattern(0, 1, 0);
        due("one is found", m.allGives(0), 1);
        dueReal("none of those that are found", m.meanNeeded(), 1);
    }

    private static final List<Act> CHANGES = List.of(
            m -> m.needs(SUMS, -1, 0, -1), m -> m.gives(SUMS, 3, -1, 9), m -> m.findNeeds(SUMS), m -> m.findGives(SUMS),
            m -> m.pattern(1, 0, 50), m -> m.pattern(2, 0, 99), m -> m.metric(SUMS, 0, -9, -1, 0), m -> m.setLazy(SUMS, true),
            m -> m.setBody(SUMS, looseTwo), m -> m.setBody(JOIN, looseFour), m -> m.gives(JOIN, 3, -1, 0));

    private static final List<Function<RefinementMint, Object>> QUESTIONS = List.of(
            m -> m.error(JOIN), m -> m.ways(SUMS), m -> m.conditions(SUMS), m -> m.kindOf(SUMS, 1), m -> m.termOf(SUMS, 1),
            m -> m.isProved(SUMS, 1), m -> m.facts(SUMS, 1), m -> m.needed(SUMS, 0), m -> m.neededAt(SUMS, 0, 0),
            m -> m.neededAt(SUMS, 1, 0), m -> m.example(SUMS, 1, 0), m -> m.isReal(SUMS, 1), m -> m.allNeeds(SUMS),
            m -> m.doesNeed(SUMS, -1, 0, 0), m -> m.allGives(JOIN), m -> m.doesGive(JOIN, 1, 3, 0), m -> m.isInRing(SUMS),
            m -> m.run(SUMS, 0, 0, 0), m -> m.run(JOIN, 4, 1, 0), m -> m.runFew(SUMS, 4, 1, 0), m -> m.runFew(JOIN, 4, 1, 0),
            m -> m.allConditions(), m -> m.provedShare(), m -> m.meanNeeded(), m -> m.isSound());

    /** Promises 22 to 47: each call answers what stands behind the last change, also as the first call behind it. */
    static void promise22To47FirstBehindAChange() {
        for (int i = 0; i < CHANGES.size(); i++) {
            for (int j = 0; j < QUESTIONS.size(); j++) {
                RefinementMint first = rich();
                first.isSound();
                CHANGES.get(i).act(first);
                RefinementMint later = rich();
                CHANGES.get(i).act(later);
                later.allConditions();
                later.isSound();
                String got = answered(first, QUESTIONS.get(j));
                String want = answered(later, QUESTIONS.get(j));
                due("question " + j + " behind change " + i + ":" + got + " for" + want, got.equals(want), true);
            }
        }
    }

    private static String answered(RefinementMint m, Function<RefinementMint, Object> question) {
        return told(() -> question.apply(m)) + told(m::checks) + told(m::result);
    }

    /** Promise 47: "Checks whether each condition ..": of none at all, and of all kinds. */
    static void promise47Sound() {
        due("of none", fresh().isSound(), true);
        due("of all kinds", rich().isSound(), true);
        due("of no functions that can be run", told(4, true).isSound(), true);
        RefinementMint m = rich();
        m.run(SUMS, 2, 0, 0);
        m.isSound();
        due("the last run is left", m.result(), 3);
    }
}
