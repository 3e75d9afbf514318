import java.util.ArrayList;
import java.util.Arrays;
import java.util.HashMap;
import java.util.List;
import java.util.Map;
import java.util.NoSuchElementException;
import java.util.Random;
import java.util.TreeSet;
import java.util.function.BiConsumer;

/**
 * Random languages, each asked of RefinementMint and of an oracle that does all of it in the plainest way: ways by
 * calls that go on with the rest, proofs by Bellman and Ford for each choice of sides, facts left out one by one,
 * examples tried number by number. Arguments: the first seed and how many (by default 1 and 600).
 */
public final class OracleTest {
    public static void main(String[] args) {
        long from = args.length > 0 ? Long.parseLong(args[0]) : 1;
        long count = args.length > 1 ? Long.parseLong(args[1]) : 600;
        int wrong = 0;
        for (long seed = from; seed < from + count && wrong < 5; seed++) {
            String fault = new Talk(seed).hold();
            if (fault != null) {
                wrong++;
                System.out.println("seed " + seed + ": " + fault);
            }
        }
        System.out.println(wrong == 0 ? "the oracle agrees " + count + " times" : "the oracle does not agree");
        System.exit(wrong == 0 ? 0 : 1);
    }

    private interface Ask {
        Object ask();
    }

    private static Object answer(Ask ask) {
        try {
            return ask.ask();
        } catch (ArrayIndexOutOfBoundsException | ClassCastException | NullPointerException e) {
            return "the machine threw " + e;
        } catch (IllegalArgumentException | IllegalStateException | UnsupportedOperationException e) {
            return e.getClass().getSimpleName();
        } catch (IndexOutOfBoundsException | NoSuchElementException e) {
            return e.getClass().getSimpleName();
        } catch (ArithmeticException e) {
            return e.getClass().getSimpleName();
        }
    }

    /** One random run of calls on both. */
    private static final class Talk {
        final Random random;
        final RefinementMint mint = new RefinementMint();
        final Oracle oracle = new Oracle();
        final List<String> said = new ArrayList<>();
        int calls = 0;
        String fault = null;
        /** Whether the numbers stand close together, and are often told to differ. */
        final boolean isDense;
        /** Whether bodies are rows of numbers in narrow ranges that are told to differ. */
        final boolean isRow;

        Talk(long seed) {
            random = new Random(seed * 7919 + 13);
            isDense = seed % 3 == 0;
            isRow = seed % 5 == 0;
        }

        int any(int bound) {
            return random.nextInt(bound);
        }

        boolean maybe(int percent) {
            return random.nextInt(100) < percent;
        }

        Object both(String what, Ask ofMint, Ask ofOracle) {
            if (fault != null) {
                return 0;
            }
            calls++;
            Object got = answer(ofMint);
            Object want = answer(ofOracle);
            said.add(what + " = " + want);
            if (!got.equals(want)) {
                fault = what + " answered " + got + ", due is " + want + "\n  " + String.join("\n  ", said);
            }
            return want;
        }

        int term(String what, Ask ofMint, Ask ofOracle) {
            Object made = both(what, ofMint, ofOracle);
            return made instanceof Integer ? (Integer) made : -7;
        }

        String hold() {
            if (isRow) {
                return holdRow();
            }
            int functions = 1 + any(4);
            for (int i = 0; i < functions; i++) {
                int parameters = any(4);
                int lists = maybe(40) ? any(1 << parameters) : 0;
                boolean isList = maybe(25);
                both("addFunction(" + parameters + "," + lists + "," + isList + ")",
                        () -> mint.addFunction(parameters, lists, isList),
                        () -> oracle.addFunction(parameters, lists, isList));
            }
            for (int f = 0; f < functions && isDense; f++) {
                tellRanges(f);
            }
            int changes = isDense ? any(6) : 6 + any(14);
            for (int i = 0; i < changes; i++) {
                change();
            }
            for (int i = 0; i < functions; i++) {
                body(i);
            }
            for (int round = 0; round < 4 && fault == null; round++) {
                look();
                for (int i = 0; i < 1 + any(4); i++) {
                    change();
                }
                if (maybe(60)) {
                    body(any(functions));
                }
            }
            return fault;
        }

        void tellRanges(int f) {
            for (int i = 0; i < Math.min(2, oracle.functions.get(f).parameters); i++) {
                int parameter = i;
                int most = 1 + any(3);
                both("needs(" + f + ",-1," + i + ",0)", () -> mint.needs(f, -1, parameter, 0),
                        () -> oracle.needs(f, -1, parameter, 0));
                both("needs(" + f + "," + i + ",-1," + most + ")", () -> mint.needs(f, parameter, -1, most),
                        () -> oracle.needs(f, parameter, -1, most));
            }
        }

        /** Function 0 gives a number of a narrow range; the bodies of function 1 tell some of these, and its two, apart. */
        String holdRow() {
            both("addFunction(0,0,false)", () -> mint.addFunction(0, 0, false), () -> oracle.addFunction(0, 0, false));
            both("addFunction(2,0,false)", () -> mint.addFunction(2, 0, false), () -> oracle.addFunction(2, 0, false));
            int most = 1 + any(2);
            both("gives(0,-1,3,0)", () -> mint.gives(0, -1, 3, 0), () -> oracle.gives(0, -1, 3, 0));
            both("gives(0,3,-1," + most + ")", () -> mint.gives(0, 3, -1, most), () -> oracle.gives(0, 3, -1, most));
            tellRanges(1);
            for (int round = 0; round < 2 && fault == null; round++) {
                int lets = 1 + any(3);
                int term = row(3 + any(7), 2 + lets);
                for (int i = lets; i > 0; i--) {
                    int name = i + 1;
                    int body = term;
                    int call = term("call(0,-1,-1,-1)", () -> mint.call(0, -1, -1, -1), () -> oracle.call(0, -1, -1, -1));
                    term = term("let(" + name + "," + call + "," + body + ")", () -> mint.let(name, call, body),
                            () -> oracle.let(name, call, body));
                }
                int root = term;
                both("setBody(1," + root + ")", () -> mint.setBody(1, root), () -> oracle.setBody(1, root));
                look();
            }
            return fault;
        }

        int row(int length, int names) {
            int a = some(names);
            int b = some(names);
            int c = some(names);
            int most = any(4) - 2;
            int term = term("claim(" + a + "," + b + "," + most + "," + c + ")", () -> mint.claim(a, b, most, c),
                    () -> oracle.claim(a, b, most, c));
            for (int i = 0; i < length; i++) {
                int on = term;
                int off = term("number(1)", () -> mint.number(1), () -> oracle.number(1));
                int x = some(names);
                int y = some(names);
                char sign = maybe(75) ? '=' : '<';
                int yes = sign == '=' || maybe(50) ? off : on;
                int no = yes == off ? on : off;
                term = term("choice(" + sign + "," + x + "," + y + "," + yes + "," + no + ")",
                        () -> mint.choice(sign, x, y, yes, no), () -> oracle.choice(sign, x, y, yes, no));
            }
            return term;
        }

        /** A name, a name plus or less 1, or a number. */
        int some(int names) {
            if (maybe(15)) {
                int value = any(3);
                return term("number(" + value + ")", () -> mint.number(value), () -> oracle.number(value));
            }
            int which = any(names);
            int name = term("name(" + which + ")", () -> mint.name(which), () -> oracle.name(which));
            if (maybe(75)) {
                return name;
            }
            int more = maybe(50) ? 1 : -1;
            return term("plus(" + name + "," + more + ")", () -> mint.plus(name, more), () -> oracle.plus(name, more));
        }

        int small() {
            if (isDense) {
                return any(4) - (maybe(20) ? 1 : 0);
            }
            int kind = any(20);
            return kind < 14 ? any(5) - 2 : kind < 18 ? any(15) - 7 : kind < 19 ? any(199) - 99 : any(240) - 120;
        }

        int function() {
            return maybe(97) ? any(Math.max(1, oracle.functions.size())) : any(8) - 1;
        }

        void change() {
            int f = function();
            int most = small();
            int kind = any(12);
            if (kind < 3) {
                int a = any(5) - 1;
                int b = any(5) - 1;
                int first = a == 3 ? -1 : a;
                int second = b == 3 ? -1 : b;
                both("needs(" + f + "," + first + "," + second + "," + most + ")",
                        () -> mint.needs(f, first, second, most), () -> oracle.needs(f, first, second, most));
            } else if (kind < 6) {
                int first = maybe(50) ? 3 : any(5) - 1;
                int second = first == 3 || maybe(30) ? any(4) - 1 : 3;
                both("gives(" + f + "," + first + "," + second + "," + most + ")",
                        () -> mint.gives(f, first, second, most), () -> oracle.gives(f, first, second, most));
            } else if (kind < 7) {
                both("findNeeds(" + f + ")", () -> mint.findNeeds(f), () -> oracle.findNeeds(f));
            } else if (kind < 8) {
                both("findGives(" + f + ")", () -> mint.findGives(f), () -> oracle.findGives(f));
            } else if (kind < 10) {
                int first = any(3);
                int second = maybe(95) ? any(3) : any(5) - 1;
                both("pattern(" + first + "," + second + "," + most + ")",
                        () -> mint.pattern(first, second, most), () -> oracle.pattern(first, second, most));
            } else if (kind < 11) {
                int first = maybe(60) ? 0 : any(4) - 1;
                int plus = maybe(60) ? 0 : small();
                int second = maybe(60) ? -1 : any(4) - 1;
                both("metric(" + f + "," + first + "," + plus + "," + second + "," + most + ")",
                        () -> mint.metric(f, first, plus, second, most),
                        () -> oracle.metric(f, first, plus, second, most));
            } else {
                boolean isLazy = maybe(30);
                both("setLazy(" + f + "," + isLazy + ")", () -> mint.setLazy(f, isLazy),
                        () -> oracle.setLazy(f, isLazy));
            }
        }

        void body(int f) {
            if (f < 0 || f >= oracle.functions.size() || oracle.terms.size() > 100) {
                return;
            }
            Oracle.Fn fn = oracle.functions.get(f);
            boolean[] sorts = new boolean[10];
            boolean[] bound = new boolean[10];
            for (int i = 0; i < fn.parameters; i++) {
                bound[i] = true;
                sorts[i] = fn.isListAt(i);
            }
            left = isDense ? 30 : 12 + any(26);
            int root = make(fn.isList, bound, sorts, isDense ? 8 : 5);
            both("setBody(" + f + "," + root + ")", () -> mint.setBody(f, root), () -> oracle.setBody(f, root));
            both("error(" + f + ")", () -> mint.error(f), () -> oracle.error(f));
        }

        int left;

        int make(boolean isList, boolean[] bound, boolean[] sorts, int deep) {
            left--;
            if (maybe(1)) {
                return make(!isList, bound, sorts, deep - 1);
            }
            if (deep <= 0 || left <= 0 || maybe(12)) {
                return leaf(isList, bound, sorts);
            }
            int kind = isDense && maybe(60) ? 0 : any(13);
            if (kind < 3) {
                char sign = maybe(isDense ? 10 : 45) ? '<' : '=';
                int a = make(maybe(12), bound, sorts, deep - (isDense ? 9 : 3));
                int b = make(maybe(12), bound, sorts, deep - (isDense ? 9 : 4));
                int yes = make(isList, bound, sorts, deep - (isDense ? 7 : 1));
                int no = make(isList, bound, sorts, deep - 1);
                return term("choice(" + sign + "," + a + "," + b + "," + yes + "," + no + ")",
                        () -> mint.choice(sign, a, b, yes, no), () -> oracle.choice(sign, a, b, yes, no));
            } else if (kind < 5) {
                return makeMatch(isList, bound, sorts, deep);
            } else if (kind < 6) {
                return makeLet(isList, bound, sorts, deep);
            } else if (kind < 8) {
                int a = make(maybe(15), bound, sorts, deep - 3);
                int b = make(maybe(15), bound, sorts, deep - 3);
                int most = small();
                int c = make(isList, bound, sorts, deep - 1);
                return term("claim(" + a + "," + b + "," + most + "," + c + ")", () -> mint.claim(a, b, most, c),
                        () -> oracle.claim(a, b, most, c));
            } else if (kind < 11) {
                return makeCall(isList, bound, sorts, deep);
            } else if (isList) {
                int a = make(false, bound, sorts, deep - 2);
                int b = make(true, bound, sorts, deep - 1);
                return term("ahead(" + a + "," + b + ")", () -> mint.ahead(a, b), () -> oracle.ahead(a, b));
            } else if (maybe(70)) {
                int a = make(false, bound, sorts, deep - 1);
                int most = small();
                return term("plus(" + a + "," + most + ")", () -> mint.plus(a, most), () -> oracle.plus(a, most));
            } else {
                int a = make(false, bound, sorts, deep - 1);
                int b = make(false, bound, sorts, deep - 2);
                return term("sum(" + a + "," + b + ")", () -> mint.sum(a, b), () -> oracle.sum(a, b));
            }
        }

        int makeMatch(boolean isList, boolean[] bound, boolean[] sorts, int deep) {
            int a = make(true, bound, sorts, deep - 3);
            int none = make(isList, bound, sorts, deep - 2);
            int first = any(10);
            int rest = maybe(98) ? (first + 1 + any(9)) % 10 : first;
            boolean[] moreBound = bound.clone();
            boolean[] moreSorts = sorts.clone();
            moreBound[first] = true;
            moreSorts[first] = false;
            moreBound[rest] = true;
            moreSorts[rest] = true;
            int some = make(isList, moreBound, moreSorts, deep - 1);
            return term("match(" + a + "," + none + "," + first + "," + rest + "," + some + ")",
                    () -> mint.match(a, none, first, rest, some), () -> oracle.match(a, none, first, rest, some));
        }

        int makeLet(boolean isList, boolean[] bound, boolean[] sorts, int deep) {
            boolean isBoundList = maybe(30);
            int a = make(isBoundList, bound, sorts, deep - 1);
            int name = any(10);
            boolean[] moreBound = bound.clone();
            boolean[] moreSorts = sorts.clone();
            moreBound[name] = true;
            moreSorts[name] = isBoundList;
            int b = make(isList, moreBound, moreSorts, deep - 1);
            return term("let(" + name + "," + a + "," + b + ")", () -> mint.let(name, a, b),
                    () -> oracle.let(name, a, b));
        }

        int makeCall(boolean isList, boolean[] bound, boolean[] sorts, int deep) {
            List<Integer> fit = new ArrayList<>();
            for (int i = 0; i < oracle.functions.size(); i++) {
                if (oracle.functions.get(i).isList == isList) {
                    fit.add(i);
                }
            }
            if (fit.isEmpty()) {
                return leaf(isList, bound, sorts);
            }
            int f = fit.get(any(fit.size()));
            Oracle.Fn fn = oracle.functions.get(f);
            int[] parts = {-1, -1, -1};
            int count = maybe(98) ? fn.parameters : any(4);
            for (int i = 0; i < count; i++) {
                parts[i] = make(fn.isListAt(i), bound, sorts, deep - 2);
            }
            return term("call(" + f + "," + Arrays.toString(parts) + ")",
                    () -> mint.call(f, parts[0], parts[1], parts[2]),
                    () -> oracle.call(f, parts[0], parts[1], parts[2]));
        }

        int leaf(boolean isList, boolean[] bound, boolean[] sorts) {
            List<Integer> fit = new ArrayList<>();
            for (int i = 0; i < 10; i++) {
                if (bound[i] && sorts[i] == isList) {
                    fit.add(i);
                }
            }
            if (maybe(1)) {
                fit.add(any(10));
            }
            if (!fit.isEmpty() && maybe(70)) {
                int name = fit.get(any(fit.size()));
                return term("name(" + name + ")", () -> mint.name(name), () -> oracle.name(name));
            }
            if (isList) {
                return term("empty()", () -> mint.empty(), () -> oracle.empty());
            }
            int value = small();
            int number = Math.abs(value) > 99 ? 3 : value;
            return term("number(" + number + ")", () -> mint.number(number), () -> oracle.number(number));
        }

        void look() {
            for (int f = -1; f <= oracle.functions.size() && fault == null; f++) {
                lookAt(f);
            }
            both("allConditions()", () -> mint.allConditions(), () -> oracle.allConditions());
            both("provedShare()", () -> mint.provedShare(), () -> oracle.provedShare());
            both("meanNeeded()", () -> mint.meanNeeded(), () -> oracle.meanNeeded());
            both("isSound()", () -> mint.isSound(), () -> true);
        }

        void lookAt(int f) {
            both("error(" + f + ")", () -> mint.error(f), () -> oracle.error(f));
            both("errorAt(" + f + ")", () -> mint.errorAt(f), () -> oracle.errorAt(f));
            both("ways(" + f + ")", () -> mint.ways(f), () -> oracle.ways(f));
            both("isInRing(" + f + ")", () -> mint.isInRing(f), () -> oracle.isInRing(f));
            both("allNeeds(" + f + ")", () -> mint.allNeeds(f), () -> oracle.allNeeds(f));
            both("allGives(" + f + ")", () -> mint.allGives(f), () -> oracle.allGives(f));
            for (int i = 0; i < 3; i++) {
                Oracle.Atom p = oracle.patterns.isEmpty() ? null : oracle.patterns.get(any(oracle.patterns.size()));
                int first = p == null || p.first == 1 ? any(5) - 1 : p.first == 0 ? -1 : 3;
                int second = p == null || p.second == 1 ? any(5) - 1 : p.second == 0 ? -1 : 3;
                int most = p == null ? small() : p.most;
                both("doesNeed(" + f + "," + first + "," + second + "," + most + ")",
                        () -> mint.doesNeed(f, first, second, most), () -> oracle.doesNeed(f, first, second, most));
                both("doesGive(" + f + "," + first + "," + second + "," + most + ")",
                        () -> mint.doesGive(f, first, second, most), () -> oracle.doesGive(f, first, second, most));
            }
            Object count = both("conditions(" + f + ")", () -> mint.conditions(f), () -> oracle.conditions(f));
            int top = count instanceof Integer ? (Integer) count : 1;
            int step = Math.max(1, top / 12);
            for (int i = any(2) - 1; i <= top && fault == null; i += step) {
                lookAtCondition(f, i);
            }
            for (int i = 0; i < 3; i++) {
                lookAtRun(f);
            }
        }

        void lookAtCondition(int f, int i) {
            String at = "(" + f + "," + i + ")";
            both("kindOf" + at, () -> mint.kindOf(f, i), () -> oracle.kindOf(f, i));
            both("termOf" + at, () -> mint.termOf(f, i), () -> oracle.termOf(f, i));
            both("isProved" + at, () -> mint.isProved(f, i), () -> oracle.isProved(f, i));
            both("facts" + at, () -> mint.facts(f, i), () -> oracle.facts(f, i));
            Object needed = both("needed" + at, () -> mint.needed(f, i), () -> oracle.needed(f, i).size());
            int most = needed instanceof Integer ? (Integer) needed : 0;
            for (int j = -1; j <= most; j++) {
                int place = j;
                both("neededAt" + at + place, () -> mint.neededAt(f, i, place), () -> oracle.neededAt(f, i, place));
            }
            for (int j = 0; j < 3; j++) {
                int parameter = j;
                both("example" + at + j, () -> mint.example(f, i, parameter), () -> oracle.example(f, i, parameter));
            }
            both("isReal" + at, () -> mint.isReal(f, i), () -> oracle.isReal(f, i));
        }

        void lookAtRun(int f) {
            int a = maybe(80) ? any(7) - 1 : small();
            int b = maybe(80) ? any(7) - 1 : small();
            int c = maybe(80) ? any(7) - 1 : small();
            String with = "(" + f + "," + a + "," + b + "," + c + ")";
            both("run" + with, () -> mint.run(f, a, b, c), () -> oracle.run(f, a, b, c, false));
            last();
            both("runFew" + with, () -> mint.runFew(f, a, b, c), () -> oracle.run(f, a, b, c, true));
            last();
        }

        void last() {
            both("result()", () -> mint.result(), () -> oracle.result());
            both("checks()", () -> mint.checks(), () -> oracle.checks);
            both("steps()", () -> mint.steps(), () -> oracle.steps);
        }
    }

    /** The second program. */
    private static final class Oracle {
        static final class Atom implements Comparable<Atom> {
            final int first;
            final int second;
            final int most;

            Atom(int first, int second, int most) {
                this.first = first;
                this.second = second;
                this.most = most;
            }

            @Override
            public int compareTo(Atom other) {
                return first != other.first ? first - other.first
                        : second != other.second ? second - other.second : most - other.most;
            }
        }

        static final class Fn {
            int parameters;
            int lists;
            boolean isList;
            TreeSet<Atom> needs = new TreeSet<>();
            TreeSet<Atom> gives = new TreeSet<>();
            boolean findsNeeds;
            boolean findsGives;
            int[] metric;
            boolean isLazy;
            int body = -1;

            boolean isListAt(int i) {
                return i < parameters && (lists & 1 << i) != 0;
            }
        }

        static final class Term {
            String kind;
            int detail;
            int rest;
            int[] parts;
        }

        /** A thing plus a number. */
        static final class Val {
            final int thing;
            final int plus;

            Val(int thing, int plus) {
                this.thing = thing;
                this.plus = plus;
            }
        }

        /** That thing a less thing b is at most the number, or is not the number. */
        static final class Fact {
            final int a;
            final int b;
            final int most;
            final boolean isUnlike;

            Fact(Val x, Val y, int most, boolean isUnlike) {
                a = x.thing;
                b = y.thing;
                this.most = most - x.plus + y.plus;
                this.isUnlike = isUnlike;
            }
        }

        /** What holds at a place of a way; the facts of ways behind a parting are rows of their own. */
        static final class State {
            final List<Fact> facts;
            final int things;

            State(List<Fact> facts, int things) {
                this.facts = facts;
                this.things = things;
            }

            State with(Fact... more) {
                List<Fact> all = new ArrayList<>(facts);
                all.addAll(Arrays.asList(more));
                return new State(all, things);
            }

            State thing() {
                return new State(facts, things + 1);
            }
        }

        static final class Condition {
            char kind;
            int term;
            State at;
            boolean isHopeless;
            /** The ways in which it does not hold. */
            List<List<Fact>> against = new ArrayList<>();
            /** Where the atom is from, for finding. */
            TreeSet<Atom> from;
            Atom atom;
            boolean isFound;
        }

        final List<Fn> functions = new ArrayList<>();
        final List<Term> terms = new ArrayList<>();
        final List<Integer> taken = new ArrayList<>();
        final List<Atom> patterns = new ArrayList<>();
        List<List<Condition>> known = null;

        int addFunction(int parameters, int lists, boolean isList) {
            if (parameters < 0 || parameters > 3 || lists < 0 || lists >= 1 << parameters) {
                throw new IllegalArgumentException();
            }
            if (functions.size() == 6) {
                throw new IllegalStateException();
            }
            Fn fn = new Fn();
            fn.parameters = parameters;
            fn.lists = lists;
            fn.isList = isList;
            functions.add(fn);
            known = null;
            return functions.size() - 1;
        }

        Fn at(int f) {
            if (f < 0 || f >= functions.size()) {
                throw new IndexOutOfBoundsException();
            }
            return functions.get(f);
        }

        static void small(int number) {
            if (Math.abs((long) number) > 99) {
                throw new IllegalArgumentException();
            }
        }

        int needs(int f, int first, int second, int most) {
            Fn fn = at(f);
            if (first < -1 || second < -1 || first >= fn.parameters || second >= fn.parameters || first == second) {
                throw new IllegalArgumentException();
            }
            small(most);
            Atom atom = new Atom(first, second, most);
            if (!fn.findsNeeds && !fn.needs.contains(atom) && fn.needs.size() == 4) {
                throw new IllegalStateException();
            }
            if (fn.findsNeeds) {
                fn.needs.clear();
            }
            fn.findsNeeds = false;
            fn.needs.add(atom);
            known = null;
            return fn.needs.size();
        }

        int gives(int f, int first, int second, int most) {
            Fn fn = at(f);
            if (first < -1 || second < -1 || first != 3 && first >= fn.parameters
                    || second != 3 && second >= fn.parameters || first == second) {
                throw new IllegalArgumentException();
            }
            small(most);
            Atom atom = new Atom(first, second, most);
            if (!fn.findsGives && !fn.gives.contains(atom) && fn.gives.size() == 4) {
                throw new IllegalStateException();
            }
            if (fn.findsGives) {
                fn.gives.clear();
            }
            fn.findsGives = false;
            fn.gives.add(atom);
            known = null;
            return fn.gives.size();
        }

        int findNeeds(int f) {
            Fn fn = at(f);
            int told = fn.findsNeeds ? 0 : fn.needs.size();
            fn.findsNeeds = true;
            fn.needs.clear();
            known = null;
            return told;
        }

        int findGives(int f) {
            Fn fn = at(f);
            int told = fn.findsGives ? 0 : fn.gives.size();
            fn.findsGives = true;
            fn.gives.clear();
            known = null;
            return told;
        }

        int pattern(int first, int second, int most) {
            if (first < 0 || first > 2 || second < 0 || second > 2 || first + second == 0 || first + second == 4) {
                throw new IllegalArgumentException();
            }
            small(most);
            if (patterns.size() == 8) {
                throw new IllegalStateException();
            }
            patterns.add(new Atom(first, second, most));
            known = null;
            return patterns.size();
        }

        int metric(int f, int first, int firstPlus, int second, int secondPlus) {
            Fn fn = at(f);
            if (first < 0 || first >= fn.parameters || second < -1 || second >= fn.parameters) {
                throw new IllegalArgumentException();
            }
            small(firstPlus);
            if (second >= 0) {
                small(secondPlus);
            }
            fn.metric = second < 0 ? new int[] {first, firstPlus} : new int[] {first, firstPlus, second, secondPlus};
            known = null;
            return fn.metric.length / 2;
        }

        boolean setLazy(int f, boolean isLazy) {
            Fn fn = at(f);
            boolean was = fn.isLazy;
            fn.isLazy = isLazy;
            known = null;
            return was;
        }

        char setBody(int f, int body) {
            Fn fn = at(f);
            if (body < 0 || body >= terms.size()) {
                throw new IndexOutOfBoundsException();
            }
            if (taken.contains(body)) {
                throw new UnsupportedOperationException();
            }
            taken.remove((Integer) fn.body);
            fn.body = body;
            taken.add(body);
            known = null;
            return error(f);
        }

        int add(String kind, int detail, int rest, int... parts) {
            for (int part : parts) {
                if (part < 0 || part >= terms.size()) {
                    throw new IndexOutOfBoundsException();
                }
            }
            for (int i = 0; i < parts.length; i++) {
                for (int j = 0; j < parts.length; j++) {
                    if (taken.contains(parts[i]) || i != j && parts[i] == parts[j]) {
                        throw new UnsupportedOperationException();
                    }
                }
            }
            if (terms.size() == 120) {
                throw new IllegalStateException();
            }
            Term term = new Term();
            term.kind = kind;
            term.detail = detail;
            term.rest = rest;
            term.parts = parts;
            for (int part : parts) {
                taken.add(part);
            }
            terms.add(term);
            return terms.size() - 1;
        }

        static void nameThere(int name) {
            if (name < 0 || name > 9) {
                throw new IllegalArgumentException();
            }
        }

        int number(int value) {
            small(value);
            return add("number", value, 0);
        }

        int name(int name) {
            nameThere(name);
            return add("name", name, 0);
        }

        int plus(int term, int more) {
            small(more);
            return add("plus", more, 0, term);
        }

        int sum(int first, int second) {
            return add("sum", 0, 0, first, second);
        }

        int let(int name, int bound, int body) {
            nameThere(name);
            return add("let", name, 0, bound, body);
        }

        int choice(char comparison, int first, int second, int yes, int no) {
            return add("choice", comparison, 0, first, second, yes, no);
        }

        int call(int f, int a, int b, int c) {
            if (f < 0 || f >= functions.size()) {
                throw new NoSuchElementException();
            }
            int count = a == -1 ? 0 : b == -1 ? 1 : c == -1 ? 2 : 3;
            int[] parts = {a, b, c};
            for (int i = count; i < 3; i++) {
                if (parts[i] != -1) {
                    throw new IndexOutOfBoundsException();
                }
            }
            return add("call", f, 0, Arrays.copyOf(parts, count));
        }

        int empty() {
            return add("empty", 0, 0);
        }

        int ahead(int first, int rest) {
            return add("ahead", 0, 0, first, rest);
        }

        int match(int list, int none, int first, int rest, int some) {
            nameThere(first);
            nameThere(rest);
            if (first == rest) {
                throw new IllegalArgumentException();
            }
            return add("match", first, rest, list, none, some);
        }

        int claim(int first, int second, int most, int term) {
            small(most);
            return add("claim", most, 0, first, second, term);
        }

        // errors

        static final class Fault extends RuntimeException {
            static final long serialVersionUID = 1;
            final char kind;
            final int term;

            Fault(char kind, int term) {
                super(null, null, false, false);
                this.kind = kind;
                this.term = term;
            }
        }

        Fault fault(int f) {
            Fn fn = at(f);
            if (fn.body < 0) {
                return new Fault('b', -1);
            }
            Map<Integer, Boolean> env = new HashMap<>();
            for (int i = 0; i < fn.parameters; i++) {
                env.put(i, fn.isListAt(i));
            }
            try {
                if (sort(fn.body, env) != fn.isList) {
                    return new Fault('t', fn.body);
                }
            } catch (Fault e) {
                return e;
            }
            return count(fn.body) > 40 ? new Fault('s', fn.body) : null;
        }

        boolean sort(int number, Map<Integer, Boolean> env) {
            Term t = terms.get(number);
            boolean[] s = new boolean[t.parts.length];
            for (int i = 0; i < s.length; i++) {
                Map<Integer, Boolean> inner = new HashMap<>(env);
                if (t.kind.equals("let") && i == 1) {
                    inner.put(t.detail, s[0]);
                }
                if (t.kind.equals("match") && i == 2) {
                    inner.put(t.detail, false);
                    inner.put(t.rest, true);
                }
                s[i] = sort(t.parts[i], inner);
            }
            switch (t.kind) {
                case "name":
                    if (!env.containsKey(t.detail)) {
                        throw new Fault('v', number);
                    }
                    return env.get(t.detail);
                case "plus":
                case "sum":
                    for (int i = 0; i < s.length; i++) {
                        want(s[i], false, t.parts[i]);
                    }
                    return false;
                case "let":
                    return s[1];
                case "choice":
                    want(s[3], s[2], t.parts[3]);
                    return s[2];
                case "call":
                    Fn callee = functions.get(t.detail);
                    if (s.length != callee.parameters) {
                        throw new Fault('c', number);
                    }
                    for (int i = 0; i < s.length; i++) {
                        want(s[i], callee.isListAt(i), t.parts[i]);
                    }
                    return callee.isList;
                case "empty":
                    return true;
                case "ahead":
                    want(s[0], false, t.parts[0]);
                    want(s[1], true, t.parts[1]);
                    return true;
                case "match":
                    want(s[0], true, t.parts[0]);
                    want(s[2], s[1], t.parts[2]);
                    return s[1];
                case "claim":
                    return s[2];
                default:
                    return false;
            }
        }

        static void want(boolean got, boolean want, int part) {
            if (got != want) {
                throw new Fault('t', part);
            }
        }

        long count(int number) {
            Term t = terms.get(number);
            int straight = t.kind.equals("choice") ? 2 : t.kind.equals("match") ? 1 : t.parts.length;
            double ways = 1;
            for (int i = 0; i < straight; i++) {
                ways *= count(t.parts[i]);
            }
            double parted = straight < t.parts.length ? 0 : 1;
            for (int i = straight; i < t.parts.length; i++) {
                parted += count(t.parts[i]);
            }
            return (long) Math.min(1e9, ways * parted);
        }

        char error(int f) {
            Fault fault = fault(f);
            return fault == null ? '-' : fault.kind;
        }

        int errorAt(int f) {
            Fault fault = fault(f);
            if (fault == null || fault.kind == 'b') {
                throw new NoSuchElementException();
            }
            return fault.term;
        }

        int ways(int f) {
            at(f);
            if (error(f) != '-') {
                throw new IllegalStateException();
            }
            return (int) count(at(f).body);
        }

        // rings

        void callsOf(int number, TreeSet<Integer> into) {
            Term t = terms.get(number);
            if (t.kind.equals("call")) {
                into.add(t.detail);
            }
            for (int part : t.parts) {
                callsOf(part, into);
            }
        }

        TreeSet<Integer> reach(int f) {
            TreeSet<Integer> all = new TreeSet<>();
            List<Integer> todo = new ArrayList<>();
            todo.add(f);
            while (!todo.isEmpty()) {
                int g = todo.remove(todo.size() - 1);
                if (error(g) == '-') {
                    TreeSet<Integer> calls = new TreeSet<>();
                    callsOf(functions.get(g).body, calls);
                    for (int h : calls) {
                        if (all.add(h)) {
                            todo.add(h);
                        }
                    }
                }
            }
            return all;
        }

        boolean isInRing(int f) {
            at(f);
            return reach(f).contains(f);
        }

        // ways

        static final Val NOTHING = new Val(0, 0);

        Val thing(int thing, Val[] given) {
            return thing < 0 ? NOTHING : given[thing];
        }

        static Fact not(Val a, Val b, int most) {
            return new Fact(b, a, -most - 1, false);
        }

        State learn(State s, TreeSet<Atom> atoms, Val[] given) {
            for (Atom atom : atoms) {
                s = s.with(new Fact(thing(atom.first, given), thing(atom.second, given), atom.most, false));
            }
            return s;
        }

        List<Condition> walk(int f) {
            Fn fn = functions.get(f);
            List<Condition> out = new ArrayList<>();
            Map<Integer, Val> env = new HashMap<>();
            State s = new State(new ArrayList<>(), 1 + fn.parameters);
            Val[] own = new Val[4];
            for (int i = 0; i < fn.parameters; i++) {
                own[i] = new Val(i + 1, 0);
                env.put(i, own[i]);
                if (fn.isListAt(i)) {
                    s = s.with(new Fact(NOTHING, own[i], 0, false));
                }
            }
            s = learn(s, fn.needs, own);
            go(f, fn.body, env, s, out, (value, end) -> {
                Val[] given = own.clone();
                given[3] = value;
                atomsAt('e', fn.body, fn.gives, fn.findsGives, given, end, out);
            });
            return out;
        }

        void atomsAt(char kind, int term, TreeSet<Atom> atoms, boolean isFound, Val[] given, State s,
                List<Condition> out) {
            for (Atom atom : atoms) {
                Condition c = new Condition();
                c.kind = kind;
                c.term = term;
                c.at = s;
                c.from = atoms;
                c.atom = atom;
                c.isFound = isFound;
                c.against.add(List.of(not(thing(atom.first, given), thing(atom.second, given), atom.most)));
                out.add(c);
            }
        }

        void goParts(int f, int[] parts, int from, int to, Map<Integer, Val> env, State s, List<Condition> out,
                List<Val> so, BiConsumer<List<Val>, State> then) {
            if (from == to) {
                then.accept(so, s);
                return;
            }
            go(f, parts[from], env, s, out, (value, next) -> {
                List<Val> more = new ArrayList<>(so);
                more.add(value);
                goParts(f, parts, from + 1, to, env, next, out, more, then);
            });
        }

        void go(int f, int number, Map<Integer, Val> env, State start, List<Condition> out,
                BiConsumer<Val, State> then) {
            Term t = terms.get(number);
            boolean isParting = t.kind.equals("choice") || t.kind.equals("match");
            int straight = t.kind.equals("choice") || t.kind.equals("claim") ? 2
                    : t.kind.equals("match") || t.kind.equals("let") ? 1 : t.parts.length;
            goParts(f, t.parts, 0, straight, env, start, out, new ArrayList<>(), (v, s) -> {
                Map<Integer, Val> inner = new HashMap<>(env);
                switch (t.kind) {
                    case "number":
                        then.accept(new Val(0, t.detail), s);
                        break;
                    case "name":
                        then.accept(env.get(t.detail), s);
                        break;
                    case "plus":
                        then.accept(new Val(v.get(0).thing, v.get(0).plus + t.detail), s);
                        break;
                    case "sum":
                        then.accept(new Val(s.things, 0), s.thing());
                        break;
                    case "let":
                        inner.put(t.detail, v.get(0));
                        go(f, t.parts[1], inner, s, out, then);
                        break;
                    case "choice":
                        State yes;
                        State no;
                        if (t.detail == '<') {
                            yes = s.with(new Fact(v.get(0), v.get(1), -1, false));
                            no = s.with(new Fact(v.get(1), v.get(0), 0, false));
                        } else {
                            yes = s.with(new Fact(v.get(0), v.get(1), 0, false), new Fact(v.get(1), v.get(0), 0, false));
                            no = s.with(new Fact(v.get(0), v.get(1), 0, true));
                        }
                        go(f, t.parts[2], env, yes, out, then);
                        go(f, t.parts[3], env, no, out, then);
                        break;
                    case "call":
                        goCall(f, number, v, s, out, then);
                        break;
                    case "empty":
                        then.accept(NOTHING, s);
                        break;
                    case "ahead":
                        then.accept(new Val(v.get(1).thing, v.get(1).plus + 1), s);
                        break;
                    case "match":
                        go(f, t.parts[1], env, s.with(new Fact(v.get(0), NOTHING, 0, false)), out, then);
                        inner.put(t.detail, new Val(s.things, 0));
                        inner.put(t.rest, new Val(v.get(0).thing, v.get(0).plus - 1));
                        go(f, t.parts[2], inner, s.with(new Fact(NOTHING, v.get(0), -1, false)).thing(), out, then);
                        break;
                    default:
                        Condition c = new Condition();
                        c.kind = 'a';
                        c.term = number;
                        c.at = s;
                        c.against.add(List.of(not(v.get(0), v.get(1), t.detail)));
                        out.add(c);
                        go(f, t.parts[2], env, s.with(new Fact(v.get(0), v.get(1), t.detail, false)), out, then);
                        break;
                }
            });
        }

        void goCall(int f, int number, List<Val> v, State s, List<Condition> out, BiConsumer<Val, State> then) {
            Fn own = functions.get(f);
            int g = terms.get(number).detail;
            Fn callee = functions.get(g);
            Val[] given = new Val[4];
            for (int i = 0; i < v.size(); i++) {
                given[i] = v.get(i);
            }
            atomsAt('p', number, callee.needs, callee.findsNeeds, given, s, out);
            if ((g == f || reach(g).contains(f)) && !own.isLazy && !callee.isLazy) {
                out.add(metricOf(own, callee, number, given, s));
            }
            given[3] = new Val(s.things, 0);
            State behind = s.thing();
            if (callee.isList) {
                behind = behind.with(new Fact(NOTHING, given[3], 0, false));
            }
            then.accept(given[3], learn(behind, callee.gives, given));
        }

        Condition metricOf(Fn own, Fn callee, int number, Val[] given, State s) {
            Condition c = new Condition();
            c.kind = 'm';
            c.term = number;
            c.at = s;
            c.isHopeless = own.metric == null || callee.metric == null || own.metric.length != callee.metric.length;
            if (c.isHopeless) {
                return c;
            }
            int places = own.metric.length / 2;
            Val[] of = new Val[places];
            Val[] to = new Val[places];
            for (int i = 0; i < places; i++) {
                Val a = given[callee.metric[2 * i]];
                of[i] = new Val(a.thing, a.plus + callee.metric[2 * i + 1]);
                to[i] = new Val(own.metric[2 * i] + 1, own.metric[2 * i + 1]);
            }
            // not ((a < b and a >= 0) or (a = b and c < d and c >= 0)), each side of each "and" on its own
            List<List<Fact>> notFirst = List.of(List.of(not(of[0], to[0], -1)), List.of(not(NOTHING, of[0], 0)));
            List<List<Fact>> notSecond = List.of(List.of());
            if (places == 2) {
                notSecond = List.of(List.of(new Fact(of[0], to[0], 0, true)), List.of(not(of[1], to[1], -1)),
                        List.of(not(NOTHING, of[1], 0)));
            }
            for (List<Fact> a : notFirst) {
                for (List<Fact> b : notSecond) {
                    List<Fact> both = new ArrayList<>(a);
                    both.addAll(b);
                    c.against.add(both);
                }
            }
            return c;
        }

        // proofs

        static boolean isOpen(List<Fact> facts, int things) {
            for (int i = 0; i < facts.size(); i++) {
                Fact fact = facts.get(i);
                if (fact.isUnlike) {
                    List<Fact> rest = new ArrayList<>(facts);
                    rest.remove(i);
                    if (!isOpen(rest, things, true)) {
                        return false;
                    }
                    Val a = new Val(fact.a, 0);
                    Val b = new Val(fact.b, 0);
                    rest.add(new Fact(a, b, fact.most - 1, false));
                    if (isOpen(rest, things)) {
                        return true;
                    }
                    rest.set(rest.size() - 1, new Fact(b, a, -fact.most - 1, false));
                    return isOpen(rest, things);
                }
            }
            return isOpen(facts, things, true);
        }

        /** Whether bounds alone leave numbers: no ring of them is below 0. */
        static boolean isOpen(List<Fact> facts, int things, boolean boundsAlone) {
            long[] high = new long[things];
            for (int round = 0; round <= things; round++) {
                boolean isChanged = false;
                for (Fact fact : facts) {
                    if (!fact.isUnlike && high[fact.b] + fact.most < high[fact.a]) {
                        high[fact.a] = high[fact.b] + fact.most;
                        isChanged = true;
                    }
                }
                if (!isChanged) {
                    return boundsAlone;
                }
            }
            return false;
        }

        static boolean canBreak(Condition c, List<Fact> facts) {
            for (List<Fact> against : c.against) {
                List<Fact> all = new ArrayList<>(against);
                all.addAll(facts);
                if (isOpen(all, c.at.things)) {
                    return true;
                }
            }
            return false;
        }

        static boolean holds(Condition c, List<Fact> facts) {
            return !c.isHopeless && !canBreak(c, facts);
        }

        void find() {
            for (int f = 0; f < functions.size(); f++) {
                Fn fn = functions.get(f);
                if (fn.findsNeeds) {
                    fn.needs = candidates(fn, error(f) == '-', false);
                }
                if (fn.findsGives) {
                    fn.gives = candidates(fn, error(f) == '-', true);
                }
            }
            boolean isChanged = true;
            while (isChanged) {
                isChanged = false;
                for (int f = 0; f < functions.size() && !isChanged; f++) {
                    if (error(f) == '-') {
                        for (Condition c : walk(f)) {
                            if (c.isFound && !holds(c, c.at.facts)) {
                                c.from.remove(c.atom);
                                isChanged = true;
                                break;
                            }
                        }
                    }
                }
            }
        }

        TreeSet<Atom> candidates(Fn fn, boolean isRight, boolean isGiven) {
            TreeSet<Atom> all = new TreeSet<>();
            for (Atom p : patterns) {
                for (int a = -1; a <= 3; a++) {
                    for (int b = -1; b <= 3; b++) {
                        if (isRight && a != b && fits(p.first, a, fn, isGiven) && fits(p.second, b, fn, isGiven)) {
                            all.add(new Atom(a, b, p.most));
                        }
                    }
                }
            }
            return all;
        }

        static boolean fits(int kind, int thing, Fn fn, boolean isGiven) {
            return kind == 0 ? thing == -1 : kind == 1 ? thing >= 0 && thing < fn.parameters : thing == 3 && isGiven;
        }

        List<List<Condition>> all() {
            if (known == null) {
                find();
                known = new ArrayList<>();
                for (int f = 0; f < functions.size(); f++) {
                    List<Condition> told = new ArrayList<>();
                    if (error(f) == '-') {
                        for (Condition c : walk(f)) {
                            if (!c.isFound) {
                                told.add(c);
                            }
                        }
                    }
                    known.add(told);
                }
            }
            return known;
        }

        Condition condition(int f, int index) {
            at(f);
            if (error(f) != '-') {
                throw new IllegalStateException();
            }
            List<Condition> told = all().get(f);
            if (index < 0 || index >= told.size()) {
                throw new NoSuchElementException();
            }
            return told.get(index);
        }

        int conditions(int f) {
            at(f);
            if (error(f) != '-') {
                throw new IllegalStateException();
            }
            return all().get(f).size();
        }

        char kindOf(int f, int index) {
            return condition(f, index).kind;
        }

        int termOf(int f, int index) {
            return condition(f, index).term;
        }

        boolean isProved(int f, int index) {
            Condition c = condition(f, index);
            return holds(c, c.at.facts);
        }

        int facts(int f, int index) {
            return condition(f, index).at.facts.size();
        }

        List<Integer> needed(int f, int index) {
            Condition c = condition(f, index);
            if (!holds(c, c.at.facts)) {
                throw new UnsupportedOperationException();
            }
            return needed(c);
        }

        static List<Integer> needed(Condition c) {
            List<Integer> left = new ArrayList<>();
            for (int i = 0; i < c.at.facts.size(); i++) {
                left.add(i);
            }
            for (int i = 0; i < c.at.facts.size(); i++) {
                List<Integer> fewer = new ArrayList<>(left);
                fewer.remove((Integer) i);
                List<Fact> facts = new ArrayList<>();
                for (int j : fewer) {
                    facts.add(c.at.facts.get(j));
                }
                if (holds(c, facts)) {
                    left = fewer;
                }
            }
            return left;
        }

        int neededAt(int f, int index, int place) {
            List<Integer> all = needed(f, index);
            if (place < 0 || place >= all.size()) {
                throw new NoSuchElementException();
            }
            return all.get(place);
        }

        int[] exampleOf(int f, Condition c) {
            if (c.isHopeless || holds(c, c.at.facts)) {
                return null;
            }
            Fn fn = functions.get(f);
            int[] chosen = new int[fn.parameters];
            List<Fact> facts = new ArrayList<>(c.at.facts);
            for (int i = 0; i < chosen.length; i++) {
                boolean isMet = false;
                for (int n = 0; n <= 600 && !isMet; n++) {
                    for (int sign = 1; sign >= -1 && !isMet; sign -= 2) {
                        List<Fact> more = new ArrayList<>(facts);
                        more.add(0, new Fact(new Val(i + 1, 0), NOTHING, sign * n, false));
                        more.add(0, new Fact(NOTHING, new Val(i + 1, 0), -sign * n, false));
                        if (canBreak(c, more)) {
                            isMet = true;
                            chosen[i] = sign * n;
                            facts = more;
                        }
                    }
                }
                if (!isMet) {
                    return null;
                }
            }
            return chosen;
        }

        int example(int f, int index, int parameter) {
            Condition c = condition(f, index);
            int[] chosen = exampleOf(f, c);
            if (chosen == null || parameter < 0 || parameter >= chosen.length) {
                throw new NoSuchElementException();
            }
            return chosen[parameter];
        }

        boolean isReal(int f, int index) {
            Condition c = condition(f, index);
            int[] chosen = exampleOf(f, c);
            if (chosen == null) {
                throw new NoSuchElementException();
            }
            return isRunnable(f) && new Running(false).start(f, Arrays.copyOf(chosen, 3)) == c.kind;
        }

        int allNeeds(int f) {
            at(f);
            all();
            return at(f).needs.size();
        }

        boolean doesNeed(int f, int first, int second, int most) {
            at(f);
            all();
            return at(f).needs.contains(new Atom(first, second, most));
        }

        int allGives(int f) {
            at(f);
            all();
            return at(f).gives.size();
        }

        boolean doesGive(int f, int first, int second, int most) {
            at(f);
            all();
            return at(f).gives.contains(new Atom(first, second, most));
        }

        long allConditions() {
            long sum = 0;
            for (List<Condition> told : all()) {
                sum += told.size();
            }
            return sum;
        }

        float provedShare() {
            long proved = 0;
            for (List<Condition> told : all()) {
                for (Condition c : told) {
                    proved += holds(c, c.at.facts) ? 1 : 0;
                }
            }
            if (allConditions() == 0) {
                throw new ArithmeticException();
            }
            return (float) proved / (float) allConditions();
        }

        double meanNeeded() {
            long proved = 0;
            long sum = 0;
            for (List<Condition> told : all()) {
                for (Condition c : told) {
                    if (holds(c, c.at.facts)) {
                        proved++;
                        sum += needed(c).size();
                    }
                }
            }
            if (proved == 0) {
                throw new ArithmeticException();
            }
            return (double) sum / (double) proved;
        }

        // runs

        int checks = 0;
        int steps = 0;
        char end = '-';
        int value = 0;

        boolean isRunnable(int f) {
            if (error(f) != '-') {
                return false;
            }
            for (int g : reach(f)) {
                if (error(g) != '-') {
                    return false;
                }
            }
            return true;
        }

        char run(int f, int a, int b, int c, boolean isFew) {
            Fn fn = at(f);
            int[] numbers = {a, b, c};
            for (int i = 0; i < fn.parameters; i++) {
                small(numbers[i]);
                if (fn.isListAt(i) && numbers[i] < 0) {
                    throw new IllegalArgumentException();
                }
            }
            if (!isRunnable(f)) {
                throw new IllegalStateException();
            }
            all();
            Running running = new Running(isFew);
            end = running.start(f, numbers);
            checks = running.checked;
            steps = running.stepped;
            value = running.got;
            return end;
        }

        int result() {
            if (end != 'v') {
                throw new NoSuchElementException();
            }
            return value;
        }

        static final class Stop extends RuntimeException {
            static final long serialVersionUID = 1;
            final char kind;

            Stop(char kind) {
                super(null, null, false, false);
                this.kind = kind;
            }
        }

        /** A run; a list is a List of Integer, a number an Integer. */
        final class Running {
            final boolean isFew;
            int checked = 0;
            int stepped = 0;
            int got = 0;

            Running(boolean isFew) {
                this.isFew = isFew;
            }

            int measure(Object v) {
                return v instanceof List ? ((List<?>) v).size() : (Integer) v;
            }

            boolean isSafe(char kind, int f, int term) {
                for (int g = 0; g < functions.size(); g++) {
                    for (Condition c : all().get(g)) {
                        boolean isMeant = kind == 'e' ? c.kind == 'e' && g == f : c.kind == kind && c.term == term;
                        if (isMeant && !holds(c, c.at.facts)) {
                            return false;
                        }
                    }
                }
                return isFew;
            }

            void check(char kind, TreeSet<Atom> atoms, Object[] given) {
                for (Atom atom : atoms) {
                    checked++;
                    int a = atom.first < 0 ? 0 : measure(given[atom.first]);
                    int b = atom.second < 0 ? 0 : measure(given[atom.second]);
                    if (a - b > atom.most) {
                        throw new Stop(kind);
                    }
                }
            }

            char start(int f, int[] numbers) {
                Fn fn = functions.get(f);
                Object[] given = new Object[4];
                for (int i = 0; i < fn.parameters; i++) {
                    given[i] = numbers[i];
                    if (fn.isListAt(i)) {
                        List<Integer> zeros = new ArrayList<>();
                        for (int j = 0; j < numbers[i]; j++) {
                            zeros.add(0);
                        }
                        given[i] = zeros;
                    }
                }
                try {
                    check('p', fn.needs, given);
                    got = measure(inside(f, given, 0));
                    return 'v';
                } catch (Stop stop) {
                    return stop.kind;
                }
            }

            Object inside(int f, Object[] given, int within) {
                Fn fn = functions.get(f);
                Map<Integer, Object> env = new HashMap<>();
                for (int i = 0; i < fn.parameters; i++) {
                    env.put(i, given[i]);
                }
                given[3] = run(fn.body, env, within);
                if (!isSafe('e', f, -1)) {
                    check('e', fn.gives, given);
                }
                return given[3];
            }

            Object made(int number) {
                if (number < -1000000 || number > 1000000) {
                    throw new Stop('o');
                }
                return number;
            }

            Object run(int number, Map<Integer, Object> env, int within) {
                if (stepped == 400) {
                    throw new Stop('l');
                }
                stepped++;
                Term t = terms.get(number);
                Map<Integer, Object> inner = new HashMap<>(env);
                Object a;
                Object b;
                switch (t.kind) {
                    case "number":
                        return t.detail;
                    case "name":
                        return env.get(t.detail);
                    case "plus":
                        return made((Integer) run(t.parts[0], env, within) + t.detail);
                    case "sum":
                        a = run(t.parts[0], env, within);
                        b = run(t.parts[1], env, within);
                        return made((Integer) a + (Integer) b);
                    case "let":
                        inner.put(t.detail, run(t.parts[0], env, within));
                        return run(t.parts[1], inner, within);
                    case "choice":
                        int x = measure(run(t.parts[0], env, within));
                        int y = measure(run(t.parts[1], env, within));
                        return run(t.parts[(t.detail == '<' ? x < y : x == y) ? 2 : 3], env, within);
                    case "call":
                        Object[] given = new Object[4];
                        for (int i = 0; i < t.parts.length; i++) {
                            given[i] = run(t.parts[i], env, within);
                        }
                        if (within > 30) {
                            throw new Stop('l');
                        }
                        if (!isSafe('p', -1, number)) {
                            check('p', functions.get(t.detail).needs, given);
                        }
                        return inside(t.detail, given, within + 1);
                    case "empty":
                        return new ArrayList<Integer>();
                    case "ahead":
                        a = run(t.parts[0], env, within);
                        b = run(t.parts[1], env, within);
                        List<Object> longer = new ArrayList<>();
                        longer.add(a);
                        longer.addAll((List<?>) b);
                        return longer;
                    case "match":
                        List<?> list = (List<?>) run(t.parts[0], env, within);
                        if (list.isEmpty()) {
                            return run(t.parts[1], env, within);
                        }
                        inner.put(t.detail, list.get(0));
                        inner.put(t.rest, list.subList(1, list.size()));
                        return run(t.parts[2], inner, within);
                    default:
                        a = run(t.parts[0], env, within);
                        b = run(t.parts[1], env, within);
                        if (!isSafe('a', -1, number)) {
                            checked++;
                            if (measure(a) - measure(b) > t.detail) {
                                throw new Stop('a');
                            }
                        }
                        return run(t.parts[2], env, within);
                }
            }
        }
    }
}
