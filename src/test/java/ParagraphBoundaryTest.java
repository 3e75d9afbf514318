/**
 * Each sentence of "What it is" and of the paragraphs of "Terms" that names a boundary, on both of its sides. The comment
 * of each test tells the paragraph and the sentence.
 */
public final class ParagraphBoundaryTest extends Bench {
    public static void main(String[] args) {
        runAll(ParagraphBoundaryTest.class, 80);
    }

    /** What it is: "An object is used for at most 512 calls": the 512th one answers as it has to. */
    static void paragraphWhatItIs512Calls() {
        RefinementMint m = fresh();
        m.addFunction(1, 0, false);
        m.needs(0, -1, 0, 0);
        m.setBody(0, m.name(0));
        for (int i = 4; i < 511; i++) {
            due("no run", m.steps(), 0);
        }
        due("the 512th", m.run(0, -1, 0, 0), 'p');
        RefinementMint n = rich();
        for (int i = 0; i < 220; i++) {
            n.setLazy(SUMS, i % 2 == 0);
            n.setLazy(SUMS, false);
        }
        due("sound behind many changes", n.isSound(), true);
        RefinementMint k = withFunction(1, 0, false);
        int term = k.claim(k.name(0), k.number(0), 0, k.number(1));
        for (int i = 0; i < 20; i++) {
            term = k.sum(k.name(0), term);
        }
        k.setBody(0, term);
        for (int i = 0; i < 400; i++) {
            due("ends within many sums", k.run(0, 1, 0, 0), 'a');
        }
        due("a value behind many runs without one", k.run(0, -1, 0, 0), 'v');
        due("1 less 20", k.result(), -19);
    }

    /** Terms, Values: "In conditions, a list stands for its length": from 0 on. */
    static void paragraphValuesLengths() {
        RefinementMint m = withFunction(1, 1, true);
        m.needs(0, 0, -1, 2);
        m.gives(0, 3, -1, 2);
        m.setBody(0, m.name(0));
        due("no longer than 2", m.run(0, 2, 0, 0), 'v');
        due("longer than 2", m.run(0, 3, 0, 0), 'p');
        due("a length of 0", m.run(0, 0, 0, 0), 'v');
        m.setBody(0, m.ahead(m.number(99), m.name(0)));
        due("a result of 2", m.run(0, 1, 0, 0), 'v');
        due("a result of 3", m.run(0, 2, 0, 0), 'e');
        RefinementMint n = withFunction(1, 1, false);
        n.setBody(0, n.claim(n.number(0), n.name(0), 0, n.number(1)));
        due("no length is less than 0", n.isProved(0, 0), true);
        n.setBody(0, n.claim(n.number(1), n.name(0), 0, n.number(1)));
        due("but it can be 0", n.isProved(0, 0), false);
        due("the example", n.example(0, 0, 0), 0);
    }

    /** Terms, Terms: "At most 120 terms are numbered from 0": all of them in one body. */
    static void paragraphTerms120InOneBody() {
        RefinementMint m = withFunction(1, 0, false);
        int term = m.name(0);
        for (int i = 1; i < 120; i++) {
            term = m.plus(term, 99);
        }
        due("the last one", term, 119);
        due("body", m.setBody(0, term), '-');
        due("run", m.run(0, 1, 0, 0), 'v');
        due("value", m.result(), 1 + 119 * 99);
        due("steps", m.steps(), 120);
        m.gives(0, 3, 0, 99);
        due("far from the parameter", m.isProved(0, 0), false);
    }

    /** Terms, Terms: "a term can be a part of one other term, or the body of one function, only". */
    static void paragraphTermsPartOfOneOnly() {
        RefinementMint m = withTerms(0);
        m.addFunction(1, 0, false);
        int term = m.number(1);
        int other = m.plus(term, 1);
        fails("a part of a second one", UNSUPPORTED, () -> m.plus(term, 1));
        fails("a part and a body", UNSUPPORTED, () -> m.setBody(0, term));
        m.setBody(0, other);
        fails("the body of a second one", UNSUPPORTED, () -> m.setBody(1, other));
        fails("a body and a part", UNSUPPORTED, () -> m.plus(other, 1));
        m.setBody(0, m.number(2));
        due("a body no more, a part", m.plus(other, 1), 3);
    }

    /** Terms, Terms: "a choice by a comparison of two terms, '<' or '='": one below, the same, one above. */
    static void paragraphTermsComparisons() {
        for (int kind = 0; kind < 2; kind++) {
            boolean isList = kind == 1;
            RefinementMint less = withFunction(2, isList ? 3 : 0, false);
            less.setBody(0, less.choice('<', less.name(0), less.name(1), less.number(1), less.number(0)));
            RefinementMint same = withFunction(2, isList ? 3 : 0, false);
            same.setBody(0, same.choice('=', same.name(0), same.name(1), same.number(1), same.number(0)));
            for (int more = -1; more <= 1; more++) {
                less.run(0, 5, 5 + more, 0);
                due("less", less.result(), more > 0 ? 1 : 0);
                same.run(0, 5, 5 + more, 0);
                due("the same", same.result(), more == 0 ? 1 : 0);
            }
        }
    }

    /** Terms, Terms: a comparison and a claim of a list and a number, either way round: one below, the same, one above. */
    static void paragraphTermsComparisonsOfOneOfEach() {
        for (int lists = 1; lists <= 2; lists++) {
            for (int more = -1; more <= 1; more++) {
                RefinementMint m = withFunction(2, lists, false);
                m.setBody(0, m.choice('<', m.name(0), m.name(1), m.number(1), m.number(0)));
                m.run(0, 5, 5 + more, 0);
                due("less", m.result(), more > 0 ? 1 : 0);
                m.setBody(0, m.choice('=', m.name(0), m.name(1), m.number(1), m.number(0)));
                m.run(0, 5, 5 + more, 0);
                due("the same", m.result(), more == 0 ? 1 : 0);
                m.setBody(0, m.claim(m.name(0), m.name(1), 0, m.number(0)));
                due("a claim", m.run(0, 5, 5 + more, 0), more < 0 ? 'a' : 'v');
            }
        }
        for (int more = -1; more <= 1; more++) {
            for (int way = 0; way < 2; way++) {
                RefinementMint m = withFunction(2, 1, false);
                int first = way == 0 ? m.ahead(m.number(50), m.name(0)) : m.name(1);
                int second = way == 0 ? m.name(1) : m.ahead(m.number(50), m.name(0));
                m.setBody(0, m.choice('<', first, second, m.number(1), m.number(0)));
                m.run(0, 5, 6 + more, 0);
                due("a list that is made, and a number", m.result(), (way == 0 ? more > 0 : more < 0) ? 1 : 0);
                first = way == 0 ? m.ahead(m.number(50), m.name(0)) : m.name(1);
                second = way == 0 ? m.name(1) : m.ahead(m.number(50), m.name(0));
                m.setBody(0, m.claim(first, second, 0, m.number(0)));
                due("a claim of it", m.run(0, 5, 6 + more, 0), (way == 0 ? more < 0 : more > 0) ? 'a' : 'v');
            }
        }
    }

    /** Terms, Terms: "the empty list; a list with one number ahead of another list": its numbers, from the first to the last one. */
    static void paragraphTermsNumbersOfLists() {
        for (int length = 0; length <= 2; length++) {
            RefinementMint m = withFunction(1, 1, false);
            m.setBody(0, m.number(0));
            m.run(0, 9, 0, 0);
            int list = m.empty();
            for (int i = length; i > 0; i--) {
                list = m.ahead(m.number(10 * i), list);
            }
            int second = m.match(m.name(4), m.name(3), 3, 5, m.sum(m.name(3), m.name(3)));
            m.setBody(0, m.match(list, m.number(7), 3, 4, second));
            due("run", m.run(0, 9, 0, 0), 'v');
            due("none, the first one, or the second one twice", m.result(), length == 0 ? 7 : length == 1 ? 10 : 40);
        }
        RefinementMint m = withFunction(1, 1, true);
        m.gives(0, 3, 0, 2);
        m.gives(0, 0, 3, -2);
        m.setBody(0, m.ahead(m.number(1), m.ahead(m.number(2), m.name(0))));
        due("two more than the parameter", m.run(0, 99, 0, 0), 'v');
        due("101", m.result(), 101);
    }

    /** Terms, Terms: a match "with a term if it is empty, and another one in which its first number and the rest are bound". */
    static void paragraphTermsMatchOfEmptyAndOfOne() {
        RefinementMint m = withFunction(1, 1, false);
        int length = m.match(m.name(4), m.number(20), 5, 6, m.number(30));
        m.setBody(0, m.match(m.name(0), m.number(10), 3, 4, m.sum(m.name(3), length)));
        m.run(0, 0, 0, 0);
        due("empty", m.result(), 10);
        m.run(0, 1, 0, 0);
        due("one, the rest is empty", m.result(), 20);
        m.run(0, 2, 0, 0);
        due("two, the rest is not", m.result(), 30);
    }

    /** Terms, Functions: "0 to 3 parameters, which are the names 0, 1 and 2 in its body". */
    static void paragraphFunctionsNames() {
        for (int parameters = 0; parameters <= 3; parameters++) {
            RefinementMint m = withFunction(parameters, 0, false);
            for (int name = 0; name <= 9; name++) {
                due("name " + name + " of " + parameters, m.setBody(0, m.name(name)), name < parameters ? '-' : 'v');
                if (name < parameters) {
                    m.run(0, 10, 11, 12);
                    due("its value", m.result(), 10 + name);
                }
            }
        }
    }

    /** Terms, Functions: "the names 0, 1 and 2 in its body": of the body of each call its own ones, and behind it those of before. */
    static void paragraphFunctionsNamesOfEachCall() {
        RefinementMint m = withFunction(2, 0, false);
        m.addFunction(2, 0, false);
        m.addFunction(1, 0, false);
        m.setBody(0, m.let(0, m.plus(m.name(1), 20), m.let(9, m.name(0), m.name(9))));
        int call = m.call(0, m.name(1), m.name(0), -1);
        m.setBody(1, m.let(9, m.number(50), m.sum(call, m.sum(m.name(0), m.name(9)))));
        due("run", m.run(1, 1, 2, 0), 'v');
        due("1 + 20, and 1, and 50", m.result(), 72);
        int deep = m.call(2, m.plus(m.name(0), -1), -1, -1);
        m.setBody(2, m.choice('<', m.name(0), m.number(1), m.number(0), m.sum(deep, m.name(0))));
        due("run", m.run(2, 20, 0, 0), 'v');
        due("1 to 20", m.result(), 210);
    }

    /** Terms, Terms: "a let, which binds a name in a body"; a match "in which .. are bound otherwise": behind it, a name is as before. */
    static void paragraphTermsNamesBehindTheirTerms() {
        for (int length = 0; length <= 1; length++) {
            for (int most = -1; most <= 0; most++) {
                RefinementMint m = withFunction(3, 4, false);
                int inner = m.let(0, m.plus(m.name(1), 30), m.let(0, m.plus(m.name(0), 1), m.name(0)));
                int within = m.match(m.name(2), m.name(1), 0, 1, m.let(1, m.plus(m.name(0), 40), m.name(1)));
                int behind = m.claim(m.name(0), m.name(1), most, m.sum(m.name(0), m.name(1)));
                m.needs(0, 0, 1, 0);
                m.setBody(0, m.sum(inner, m.sum(within, behind)));
                due("no error", m.error(0), '-');
                for (int i = 0; i < 2; i++) {
                    due("the first less the second one is at most 0", m.isProved(0, i), most == 0);
                }
                due("run", m.run(0, 3, 4, length), 'v');
                due("value", m.result(), 35 + (length == 0 ? 4 : 40) + 7);
                due("run", m.run(0, 4, 4, length), most == 0 ? 'v' : 'a');
            }
        }
    }

    /** Terms, Conditions: "Both are told, at first none": nothing is found until it is to be found. */
    static void paragraphConditionsAtFirstNone() {
        RefinementMint m = withFunction(1, 0, false);
        m.pattern(0, 1, 0);
        m.setBody(0, m.name(0));
        due("needs none", m.allNeeds(0), 0);
        due("gives none", m.allGives(0), 0);
        m.findNeeds(0);
        due("needs one", m.allNeeds(0), 1);
        due("gives none", m.allGives(0), 0);
        m.findGives(0);
        due("gives it", m.allGives(0), 1);
    }

    private static RefinementMint found(int parameters, int first, int second) {
        RefinementMint m = withFunction(parameters, 0, false);
        m.findNeeds(0);
        m.findGives(0);
        m.pattern(first, second, 99);
        // contradicting facts would let all hold; 0 - x <= -50 and x - 0 <= 0 are no pattern here, so a call decides
        m.setBody(0, parameters == 0 ? m.number(0) : m.name(0));
        m.addFunction(0, 0, false);
        int[] parts = {-1, -1, -1};
        for (int i = 0; i < parameters; i++) {
            parts[i] = m.number(i);
        }
        m.setBody(1, m.call(0, parts[0], parts[1], parts[2]));
        return m;
    }

    /** Terms, Conditions: "all that come by putting parameters .. where both things of the atom are not the same; without the result for what it needs". */
    static void paragraphConditionsAtomsOfPatterns() {
        for (int p = 0; p <= 3; p++) {
            due("parameter, parameter: needs", found(p, 1, 1).allNeeds(0), p * (p - 1));
            due("nothing, parameter: needs", found(p, 0, 1).allNeeds(0), p);
            due("parameter, nothing: needs", found(p, 1, 0).allNeeds(0), p);
            due("nothing, result: needs", found(p, 0, 2).allNeeds(0), 0);
            due("result, nothing: needs", found(p, 2, 0).allNeeds(0), 0);
            due("result, parameter: needs", found(p, 2, 1).allNeeds(0), 0);
            due("parameter, result: needs", found(p, 1, 2).allNeeds(0), 0);
            due("nothing, parameter: gives", found(p, 0, 1).allGives(0), p);
            due("parameter, parameter: gives", found(p, 1, 1).allGives(0), p * (p - 1));
        }
        due("the result of no parameters, less nothing", found(0, 2, 0).allGives(0), 1);
        due("nothing less the result", found(0, 0, 2).allGives(0), 1);
        RefinementMint m = found(3, 1, 1);
        for (int first = 0; first < 3; first++) {
            for (int second = 0; second < 3; second++) {
                due("atom", m.doesNeed(0, first, second, 99), first != second);
            }
        }
        RefinementMint n = withFunction(3, 0, false);
        n.findGives(0);
        n.pattern(1, 2, 0);
        n.setBody(0, n.name(2));
        due("only the third one is the result", n.allGives(0), 1);
        due("the third one less the result", n.doesGive(0, 2, 3, 0), true);
        due("not the first one", n.doesGive(0, 0, 3, 0), false);
    }

    /** Terms, Conditions: "without the result for what it needs": where no call lets an atom fall, too. */
    static void paragraphConditionsWithoutTheResult() {
        for (int first = 0; first <= 2; first++) {
            for (int second = 0; second <= 2; second++) {
                if (first != second) {
                    RefinementMint m = withFunction(2, 0, false);
                    m.findNeeds(0);
                    m.pattern(first, second, 5);
                    m.setBody(0, m.name(0));
                    due("of " + first + " and " + second, m.allNeeds(0), first == 2 || second == 2 ? 0 : 2);
                    due("the result first", m.doesNeed(0, 3, -1, 5), false);
                    due("the result second", m.doesNeed(0, -1, 3, 5), false);
                }
            }
        }
    }

    /** Terms, Conditions: "An atom is told, or found, once only, even if several patterns have it." */
    static void paragraphConditionsOnceOnly() {
        RefinementMint m = withFunction(2, 0, false);
        m.findNeeds(0);
        m.findGives(0);
        m.setBody(0, m.name(0));
        for (int i = 1; i <= 8; i++) {
            due("pattern", m.pattern(i % 2 == 0 ? 1 : 0, 1, i % 2 == 0 ? 5 : 6), i);
        }
        due("two of each pattern", m.allNeeds(0), 4);
        due("two of each pattern", m.allGives(0), 4);
        RefinementMint n = withFunction(1, 0, false);
        due("told", n.needs(0, -1, 0, 0), 1);
        due("told again", n.needs(0, -1, 0, 0), 1);
        n.setBody(0, n.claim(n.number(0), n.name(0), 0, n.name(0)));
        due("one fact", n.facts(0, 0), 1);
    }

    /** Terms, Errors: "'v' a name that is not bound": where a let binds it, and where it does not. */
    static void paragraphErrorsBoundByLet() {
        RefinementMint m = withFunction(0, 0, false);
        due("in its body", m.setBody(0, m.let(9, m.number(1), m.name(9))), '-');
        int bound = m.name(9);
        due("in what it is bound to", m.setBody(0, m.let(9, bound, m.number(1))), 'v');
        due("at the name", m.errorAt(0), bound);
        int behind = m.name(9);
        due("behind it", m.setBody(0, m.sum(m.let(9, m.number(1), m.name(9)), behind)), 'v');
        due("at the name", m.errorAt(0), behind);
        int ahead = m.name(9);
        due("ahead of it", m.setBody(0, m.sum(ahead, m.let(9, m.number(1), m.name(9)))), 'v');
        due("at the name", m.errorAt(0), ahead);
        RefinementMint n = withFunction(1, 0, false);
        int inner = n.let(0, n.empty(), n.number(1));
        due("what it was outside, behind it", n.setBody(0, n.sum(inner, n.name(0))), '-');
        inner = n.let(0, n.empty(), n.name(0));
        due("a list inside", n.setBody(0, n.sum(n.name(0), inner)), 't');
        due("at the let", n.errorAt(0), inner);
    }

    /** Terms, Errors: "'v' a name that is not bound": where a match binds both names, and where it does not. */
    static void paragraphErrorsBoundByMatch() {
        RefinementMint m = withFunction(1, 1, false);
        due("both", m.setBody(0, m.match(m.name(0), m.number(0), 8, 9, m.match(m.name(9), m.name(8), 6, 7, m.name(8)))), '-');
        for (int name = 8; name <= 9; name++) {
            int list = m.name(name);
            due("in the list", m.setBody(0, m.match(list, m.number(0), 8, 9, m.number(0))), 'v');
            due("at the name", m.errorAt(0), list);
            int none = m.name(name);
            due("where it is empty", m.setBody(0, m.match(m.name(0), none, 8, 9, m.number(0))), 'v');
            due("at the name", m.errorAt(0), none);
            int behind = m.name(name);
            due("behind it", m.setBody(0, m.sum(m.match(m.name(0), m.number(0), 8, 9, m.number(0)), behind)), 'v');
            due("at the name", m.errorAt(0), behind);
        }
        RefinementMint n = withFunction(2, 1, false);
        int term = n.match(n.name(0), n.number(0), 0, 1, n.match(n.name(1), n.name(0), 2, 3, n.name(2)));
        due("the first is a number, the rest a list; both as before behind it",
                n.setBody(0, n.sum(term, n.match(n.name(0), n.name(1), 4, 5, n.name(1)))), '-');
    }

    /** Terms, Errors: "'t' a part .. that is a list and has to be a number, or the other way round": each part of each term. */
    static void paragraphErrorsKindsOfParts() {
        RefinementMint m = withFunction(2, 1, false);
        int list = m.empty();
        kind(m, m.plus(list, 1), list);
        list = m.empty();
        kind(m, m.sum(list, m.number(1)), list);
        list = m.empty();
        kind(m, m.sum(m.number(1), list), list);
        list = m.name(0);
        kind(m, m.sum(m.name(1), list), list);
        int number = m.number(1);
        kind(m, m.match(m.ahead(m.number(1), number), m.number(1), 3, 4, m.number(1)), number);
        list = m.empty();
        kind(m, m.match(m.ahead(list, m.empty()), m.number(1), 3, 4, m.number(1)), list);
        number = m.name(1);
        kind(m, m.match(number, m.number(1), 3, 4, m.number(1)), number);
        list = m.empty();
        kind(m, m.call(0, m.name(0), list, -1), list);
        number = m.number(1);
        kind(m, m.call(0, number, m.name(1), -1), number);
        due("as they have to be", m.setBody(0, m.call(0, m.ahead(m.number(1), m.empty()), m.plus(m.number(1), 1), -1)), '-');
    }

    private static void kind(RefinementMint m, int body, int at) {
        due("an error of kinds", m.setBody(0, body), 't');
        due("at the part", m.errorAt(0), at);
    }

    /** Terms, Errors: "'t' .. the body itself": a list for a number, and the other way round. */
    static void paragraphErrorsKindOfBody() {
        for (int kind = 0; kind < 2; kind++) {
            boolean isList = kind == 1;
            RefinementMint m = withFunction(2, 1, isList);
            char forList = isList ? '-' : 't';
            char forNumber = isList ? 't' : '-';
            due("a name of a list", m.setBody(0, m.name(0)), forList);
            due("a name of a number", m.setBody(0, m.name(1)), forNumber);
            due("a let", m.setBody(0, m.let(1, m.number(1), m.name(0))), forList);
            due("a let of a list", m.setBody(0, m.let(1, m.name(0), m.number(1))), forNumber);
            due("a choice", m.setBody(0, m.choice('<', m.name(0), m.name(1), m.name(0), m.empty())), forList);
            due("a choice", m.setBody(0, m.choice('<', m.name(0), m.name(0), m.name(1), m.number(1))), forNumber);
            due("a call", m.setBody(0, m.call(0, m.name(0), m.name(1), -1)), '-');
            due("a match", m.setBody(0, m.match(m.name(0), m.empty(), 3, 4, m.name(4))), forList);
            due("a match", m.setBody(0, m.match(m.name(0), m.name(1), 3, 4, m.name(3))), forNumber);
            due("a claim", m.setBody(0, m.claim(m.name(1), m.name(1), 0, m.name(0))), forList);
            due("a claim", m.setBody(0, m.claim(m.name(0), m.name(0), 0, m.name(1))), forNumber);
            int body = m.claim(m.name(0), m.name(0), 0, isList ? m.number(1) : m.empty());
            due("wrong", m.setBody(0, body), 't');
            due("at the body", m.errorAt(0), body);
        }
    }

    /** Terms, Errors: "where both parts of a choice or a match must be alike". */
    static void paragraphErrorsBothAlike() {
        RefinementMint m = withFunction(1, 1, false);
        for (int first = 0; first < 2; first++) {
            for (int second = 0; second < 2; second++) {
                for (int isMatch = 0; isMatch < 2; isMatch++) {
                    if (m.number(0) > 100) {
                        m = withFunction(1, 1, false);
                    }
                    int one = first == 1 ? m.empty() : m.number(1);
                    int other = second == 1 ? m.empty() : m.number(1);
                    int both = isMatch == 1 ? m.match(m.name(0), one, 3, 4, other) : m.choice('=', m.name(0), m.number(1), one, other);
                    int body = m.claim(both, m.number(0), 0, m.number(0));
                    due("both", m.setBody(0, body), first == second ? '-' : 't');
                    if (first != second) {
                        due("at the later one", m.errorAt(0), other);
                    }
                }
            }
        }
    }

    /** Terms, Errors: "'c' a call with more or fewer parts than the function has parameters". */
    static void paragraphErrorsMoreOrFewerParts() {
        for (int parameters = 0; parameters <= 3; parameters++) {
            RefinementMint m = withFunction(parameters, 0, false);
            for (int parts = 0; parts <= 3; parts++) {
                int first = parts > 0 ? m.number(1) : -1;
                int second = parts > 1 ? m.number(1) : -1;
                int third = parts > 2 ? m.number(1) : -1;
                int call = m.call(0, first, second, third);
                due(parts + " for " + parameters, m.setBody(0, m.plus(call, 1)), parts == parameters ? '-' : 'c');
                if (parts != parameters) {
                    due("at the call", m.errorAt(0), call);
                }
            }
        }
    }

    /** Terms, Errors: "those of calls as their parameters are": each parameter, number and list. */
    static void paragraphErrorsPartsOfCalls() {
        for (int lists = 0; lists < 8; lists++) {
            for (int given = 0; given < 8; given++) {
                RefinementMint m = withFunction(3, lists, false);
                int[] parts = new int[3];
                for (int i = 0; i < 3; i++) {
                    parts[i] = (given >> i & 1) == 1 ? m.empty() : m.number(1);
                }
                due("parts", m.setBody(0, m.call(0, parts[0], parts[1], parts[2])), lists == given ? '-' : 't');
                if (lists != given) {
                    due("at the first that is wrong", m.errorAt(0), parts[Integer.numberOfTrailingZeros(lists ^ given)]);
                }
            }
        }
    }

    /** Terms, Errors: "At a call, 'c' comes ahead of 't'." */
    static void paragraphErrorsAtACall() {
        RefinementMint m = withFunction(2, 1, false);
        int call = m.call(0, m.number(1), -1, -1);
        due("few, and a number for a list", m.setBody(0, call), 'c');
        due("at the call", m.errorAt(0), call);
        call = m.call(0, m.number(1), m.empty(), m.empty());
        due("many, and both wrong", m.setBody(0, call), 'c');
        due("at the call", m.errorAt(0), call);
        call = m.call(0, m.number(1), m.empty(), -1);
        due("as many as there are, both wrong", m.setBody(0, call), 't');
        due("at the first part", m.errorAt(0), call - 2);
        RefinementMint n = withFunction(1, 0, true);
        int list = n.call(0, -1, -1, -1);
        due("a call that is a list for a number, and has few parts", n.setBody(0, n.plus(list, 1)), 'c');
        due("at the call", n.errorAt(0), list);
    }

    /** Terms, Errors: "A term is looked at behind its parts, in the order in which they are told; the first error is that of the body." */
    static void paragraphErrorsTheFirstOne() {
        RefinementMint m = withFunction(1, 0, false);
        for (int i = 0; i < 4; i++) {
            int[] p = new int[4];
            for (int j = 0; j < 4; j++) {
                p[j] = j < i ? m.name(0) : m.name(9);
            }
            due("a choice", m.setBody(0, m.choice('<', p[0], p[1], p[2], p[3])), 'v');
            due("at its first wrong part", m.errorAt(0), p[i]);
        }
        int name = m.name(9);
        int call = m.call(0, name, m.number(1), -1);
        due("a part ahead of the call around it", m.setBody(0, call), 'v');
        due("at the part", m.errorAt(0), name);
        int first = m.call(0, -1, -1, -1);
        due("an error in an earlier part", m.setBody(0, m.sum(m.plus(first, 1), m.name(9))), 'c');
        due("at it", m.errorAt(0), first);
        RefinementMint n = withFunction(1, 1, false);
        for (int i = 0; i < 3; i++) {
            int[] p = new int[3];
            for (int j = 0; j < 3; j++) {
                p[j] = j < i ? j == 0 ? n.name(0) : n.number(j) : n.name(9);
            }
            due("a match", n.setBody(0, n.match(p[0], p[1], 3, 4, p[2])), 'v');
            due("at its first wrong part", n.errorAt(0), p[i]);
            for (int j = 0; j < 3; j++) {
                p[j] = j < i ? n.number(j) : n.name(9);
            }
            due("a claim", n.setBody(0, n.claim(p[0], p[1], 0, p[2])), 'v');
            due("at its first wrong part", n.errorAt(0), p[i]);
        }
        int[] parts = {n.name(8), n.name(9)};
        due("a let", n.setBody(0, n.let(3, parts[0], parts[1])), 'v');
        due("at what is bound", n.errorAt(0), parts[0]);
        int list = n.empty();
        due("a part ahead of the body", n.setBody(0, n.ahead(list, n.empty())), 't');
        due("at the part", n.errorAt(0), list);
    }

    /** Terms, Errors: "A comparison and a claim are of numbers or lists, also of one of each." */
    static void paragraphErrorsComparisonsOfBoth() {
        for (int both = 0; both < 4; both++) {
            for (int kind = 0; kind < 3; kind++) {
                RefinementMint m = withFunction(1, 1, false);
                int first = both % 2 == 0 ? m.name(0) : m.number(2);
                int second = both < 2 ? m.ahead(m.number(1), m.empty()) : m.number(1);
                int body = kind == 2 ? m.claim(first, second, 0, m.number(1))
                        : m.choice(kind == 0 ? '<' : '=', first, second, m.number(1), m.number(0));
                due("no error", m.setBody(0, body), '-');
            }
        }
    }

    /** Terms, Errors: "there is the error 's' at the body if it has more than 40 ways"; "If there is no error so". */
    static void paragraphErrorsFortyWays() {
        RefinementMint m = withFunction(1, 0, false);
        int forty = m.sum(row(m, 5), row(m, 8));
        due("40", m.setBody(0, forty), '-');
        due("40", m.ways(0), 40);
        RefinementMint n = withFunction(1, 0, false);
        // 6 times 6, and 5 beside them
        int more = n.choice('=', n.name(0), n.number(50), n.sum(row(n, 6), row(n, 6)), row(n, 5));
        due("41", n.setBody(0, more), 's');
        due("at the body", n.errorAt(0), more);
        fails("no ways", STATE, () -> n.ways(0));
        fails("no conditions", STATE, () -> n.conditions(0));
        fails("no run", STATE, () -> n.run(0, 1, 0, 0));
        due("nothing is in a ring", n.isInRing(0), false);
        RefinementMint k = withFunction(1, 0, true);
        int list = k.sum(row(k, 6), row(k, 7));
        due("42, and a number for a list", k.setBody(0, list), 't');
        RefinementMint j = withFunction(1, 0, false);
        due("42, and a name", j.setBody(0, j.sum(j.sum(row(j, 6), row(j, 7)), j.name(9))), 'v');
    }

    /** Terms, Errors: more ways than a number of 16 or 24 bits tells are still more than 40. */
    static void paragraphErrorsFarMoreThanFortyWays() {
        for (int deep = 6; deep <= 29; deep++) {
            RefinementMint m = withFunction(1, 0, false);
            int term = m.number(0);
            for (int i = 0; i < deep; i++) {
                term = m.choice('<', term, m.name(0), m.number(1), m.number(2));
            }
            due("2 to the power of " + deep, m.setBody(0, term), 's');
        }
    }

    /** Terms, Errors: "Without a body, the error is 'b'", until there is one. */
    static void paragraphErrorsWithoutABody() {
        RefinementMint m = withTerms(1);
        due("without", m.error(0), 'b');
        m.addFunction(0, 0, true);
        due("with", m.setBody(1, 0), '-');
        due("the other one without still", m.error(0), 'b');
    }

    /** Terms, Ways: "behind a comparison or a match, there is one way for each of the two terms". */
    static void paragraphWaysTwoForEach() {
        RefinementMint m = withFunction(1, 1, false);
        due("-", m.setBody(0, m.let(3, m.claim(m.name(0), m.name(0), 0, m.number(1)), m.plus(m.sum(m.name(3), m.number(1)), 1))), '-');
        due("one", m.ways(0), 1);
        m.setBody(0, m.match(m.name(0), m.number(1), 3, 4, m.number(2)));
        due("a match", m.ways(0), 2);
        m.setBody(0, m.choice('=', m.name(0), m.number(1), m.number(1), m.number(2)));
        due("a choice", m.ways(0), 2);
        int inner = m.choice('=', m.name(0), m.number(1), m.number(1), m.number(2));
        m.setBody(0, m.match(m.name(0), m.number(1), 3, 4, inner));
        due("one in the second term", m.ways(0), 3);
        inner = m.choice('=', m.name(0), m.number(1), m.number(1), m.number(2));
        m.setBody(0, m.choice('<', m.number(1), inner, m.number(1), m.number(2)));
        due("one in the comparison", m.ways(0), 4);
        for (int place = 0; place < 4; place++) {
            RefinementMint n = withFunction(2, 1, false);
            int[] part = {n.name(1), n.number(2), n.number(3), n.number(4)};
            part[place] = n.choice('=', n.name(0), n.number(1), n.number(1), n.number(2));
            n.setBody(0, n.choice('<', part[0], part[1], part[2], part[3]));
            due("one in part " + place + " of a choice", n.ways(0), place < 2 ? 4 : 3);
            int[] other = {n.name(0), n.number(2), n.number(3)};
            if (place < 3) {
                other[place] = n.choice('=', n.name(0), n.number(1), place == 0 ? n.empty() : n.number(1), place == 0 ? n.name(0) : n.number(2));
                n.setBody(0, n.match(other[0], other[1], 3, 4, other[2]));
                due("one in part " + place + " of a match", n.ways(0), place < 1 ? 4 : 3);
                other[place] = n.choice('=', n.name(0), n.number(1), n.number(1), n.number(2));
                for (int i = 0; i < 3; i++) {
                    other[i] = i == place ? other[i] : n.number(1);
                }
                n.setBody(0, n.claim(other[0], other[1], 0, other[2]));
                due("one in part " + place + " of a claim", n.ways(0), 2);
            }
        }
    }

    /** Terms, Ways: "A way goes through a body in the order of its parts": each kind of term with a claim in each part. */
    static void paragraphWaysOrderOfParts() {
        for (int kind = 0; kind < KINDS_OF_PARTS.length(); kind++) {
            char sign = KINDS_OF_PARTS.charAt(kind);
            RefinementMint m = withFunction(3, 0, false);
            m.addFunction(0, 0, sign == 'h');
            m.needs(0, 0, 1, 5);
            int[] part = new int[partsOf(sign)];
            for (int i = 0; i < part.length; i++) {
                part[i] = m.claim(m.number(0), m.number(i), 0, simple(m, sign, i, false));
            }
            int root = around(m, sign, part);
            due(sign + ": no error", m.setBody(1, root), '-');
            int at = 0;
            for (int i = 0; i < part.length; i++) {
                if (sign == 'a' && i == 2) {
                    due("a claim behind its first two parts", m.termOf(1, at), root);
                    at++;
                }
                due(sign + ": part " + i, m.termOf(1, at), part[i]);
                at++;
            }
            if (sign == 'c') {
                due("what a call needs, behind its parts", m.kindOf(1, at), 'p');
                due("with the facts of all parts", m.facts(1, at), 3);
                at++;
            }
            due(sign + ": no more", m.conditions(1), at);
        }
    }

    /** Terms, Running: "then the body is run part by part": a run ends in a part behind those ahead of it. */
    static void paragraphRunningOrderOfParts() {
        for (int kind = 0; kind < KINDS_OF_PARTS.length(); kind++) {
            char sign = KINDS_OF_PARTS.charAt(kind);
            for (int last = 0; last < partsOf(sign); last++) {
                RefinementMint m = withFunction(3, 0, false);
                m.addFunction(0, 0, sign == 'h');
                m.needs(0, 0, 1, 5);
                m.setBody(0, m.number(0));
                int[] part = new int[partsOf(sign)];
                boolean isLater = last == part.length - 1;
                for (int i = 0; i < part.length; i++) {
                    part[i] = m.claim(m.number(1), m.number(0), i < last ? 1 : 0, simple(m, sign, i, isLater));
                }
                due(sign + ": no error", m.setBody(1, around(m, sign, part)), '-');
                due(sign + ": ends in part " + last, m.run(1, 0, 0, 0), 'a');
                // of a choice and a match, the last part comes in place of the one ahead of it
                int ahead = isLater && (sign == '?' || sign == 'm') ? last - 1 : last;
                int own = sign == 'a' && last == 2 ? 1 : 0;
                int more = sign == 'm' && last == 2 ? 2 : 0;
                due(sign + ": checks up to part " + last, m.checks(), ahead + own + 1);
                due(sign + ": steps up to part " + last, m.steps(), 1 + 4 * ahead + more + 3);
            }
        }
    }

    /** A sum, a let, a choice, a call, a list with a number ahead, a match and a claim. */
    private static final String KINDS_OF_PARTS = "+l?chma";

    private static int partsOf(char sign) {
        return sign == '?' ? 4 : sign == 'c' || sign == 'm' || sign == 'a' ? 3 : 2;
    }

    /** What a part can be; isLater lets a choice and a match go on to their last part. */
    private static int simple(RefinementMint m, char sign, int part, boolean isLater) {
        if (sign == 'm' && part == 0 && isLater) {
            return m.ahead(m.number(7), m.empty());
        }
        if (sign == 'm' && part == 0 || sign == 'h' && part == 1) {
            return m.empty();
        }
        return m.number(sign == '?' && part == 1 && isLater ? 1 : 0);
    }

    private static int around(RefinementMint m, char sign, int[] part) {
        switch (sign) {
            case '+':
                return m.sum(part[0], part[1]);
            case 'l':
                return m.let(3, part[0], part[1]);
            case '?':
                return m.choice('=', part[0], part[1], part[2], part[3]);
            case 'c':
                return m.call(0, part[0], part[1], part[2]);
            case 'h':
                return m.ahead(part[0], part[1]);
            case 'm':
                return m.match(part[0], part[1], 3, 4, part[2]);
            default:
                return m.claim(part[0], part[1], 0, part[2]);
        }
    }

    /** Terms, Ways: how many facts come at the beginning: a list "is not less than 0", "then what the function needs". */
    static void paragraphWaysFactsAtTheBeginning() {
        for (int lists = 0; lists < 8; lists++) {
            for (int told = 0; told <= 4; told++) {
                RefinementMint m = withFunction(3, lists, false);
                for (int i = 0; i < told; i++) {
                    m.needs(0, 0, -1, i);
                }
                m.setBody(0, m.claim(m.number(0), m.name(2), 0, m.number(1)));
                due("facts", m.facts(0, 0), Integer.bitCount(lists) + told);
                due("the third is a list", m.isProved(0, 0), lists >= 4);
                if (lists >= 4) {
                    due("by one fact", m.needed(0, 0), 1);
                    due("the last of the lists", m.neededAt(0, 0, 0), Integer.bitCount(lists) - 1);
                }
            }
        }
    }

    private static RefinementMint behind(char comparison, boolean isSecond, int first, int second, int most) {
        RefinementMint m = withFunction(2, 0, false);
        int claim = m.claim(m.name(first), m.name(second), most, m.number(0));
        int other = m.number(0);
        m.setBody(0, m.choice(comparison, m.name(0), m.name(1), isSecond ? other : claim, isSecond ? claim : other));
        return m;
    }

    /** Terms, Ways: "At a comparison, that it holds, on the first way, or that it does not, on the second one". */
    static void paragraphWaysFactsOfComparisons() {
        RefinementMint m = behind('<', false, 0, 1, -1);
        due("x < y: one fact", m.facts(0, 0), 1);
        due("x - y <= -1", m.isProved(0, 0), true);
        due("x - y <= -2", behind('<', false, 0, 1, -2).isProved(0, 0), false);
        m = behind('<', true, 1, 0, 0);
        due("not x < y: one fact", m.facts(0, 0), 1);
        due("y - x <= 0", m.isProved(0, 0), true);
        due("y - x <= -1", behind('<', true, 1, 0, -1).isProved(0, 0), false);
        due("x - y <= 99", behind('<', true, 0, 1, 99).isProved(0, 0), false);
        m = behind('=', false, 0, 1, 0);
        due("x = y: two facts", m.facts(0, 0), 2);
        due("x - y <= 0", m.isProved(0, 0), true);
        due("by the first one", m.neededAt(0, 0, 0), 0);
        due("x - y <= -1", behind('=', false, 0, 1, -1).isProved(0, 0), false);
        m = behind('=', false, 1, 0, 0);
        due("y - x <= 0", m.isProved(0, 0), true);
        due("by the second one", m.neededAt(0, 0, 0), 1);
        due("y - x <= -1", behind('=', false, 1, 0, -1).isProved(0, 0), false);
        m = behind('=', true, 0, 1, 0);
        due("not x = y: one fact", m.facts(0, 0), 1);
        due("x - y <= 0", m.isProved(0, 0), false);
        due("x less", m.example(0, 0, 0), 0);
        due("than y", m.example(0, 0, 1), -1);
    }

    /** Terms, Ways: "that it does not hold is one fact": with x - y at most 0 it is at most -1 then, and not -2. */
    static void paragraphWaysUnlikeAtAnEnd() {
        for (int most = -2; most <= -1; most++) {
            for (int side = 0; side < 2; side++) {
                RefinementMint m = behind('=', true, side, 1 - side, most);
                m.needs(0, side, 1 - side, 0);
                due("facts", m.facts(0, 0), 2);
                due("at most " + most, m.isProved(0, 0), most == -1);
                m.needs(0, side, 1 - side, 1);
                due("with one that tells less", m.isProved(0, 0), most == -1);
                m.findNeeds(0);
                m.needs(0, side, 1 - side, 1);
                due("from at most 1, which is not 0", m.isProved(0, 0), false);
            }
        }
    }

    private static RefinementMint matched(boolean isSecond, int most, boolean isFromAbove) {
        RefinementMint m = withFunction(1, 1, false);
        int list = m.name(0);
        int number = m.number(0);
        int claim = isFromAbove ? m.claim(list, number, most, m.number(0)) : m.claim(number, list, most, m.number(0));
        int other = m.number(0);
        m.setBody(0, m.match(m.name(0), isSecond ? other : claim, 3, 4, isSecond ? claim : other));
        return m;
    }

    /** Terms, Ways: "At a match, that the length is at most 0, or that 0 less the length is at most -1." */
    static void paragraphWaysFactsOfMatches() {
        due("empty: length <= 0", matched(false, 0, true).isProved(0, 0), true);
        due("empty: length <= -1", matched(false, -1, true).isProved(0, 0), false);
        due("not empty: 0 - length <= -1", matched(true, -1, false).isProved(0, 0), true);
        due("not empty: 0 - length <= -2", matched(true, -2, false).isProved(0, 0), false);
        due("not empty: length <= 99", matched(true, 99, true).isProved(0, 0), false);
        for (int way = 0; way < 2; way++) {
            due("the list's, and one of the match", matched(way == 1, 0, way == 0).facts(0, 0), 2);
        }
        RefinementMint m = withFunction(0, 0, false);
        m.setBody(0, m.match(m.empty(), m.number(1), 3, 4, m.claim(m.number(1), m.number(0), -99, m.number(0))));
        due("a way that can not be: all holds on it", m.isProved(0, 0), true);
        due("by that it is not empty", m.needed(0, 0), 1);
    }

    /** Terms, Ways: "a list with a number ahead has one length more than the rest; what a match binds as the rest is one less". */
    static void paragraphWaysLengths() {
        for (int most = 0; most <= 1; most++) {
            RefinementMint m = withFunction(1, 1, false);
            m.setBody(0, m.claim(m.ahead(m.number(9), m.name(0)), m.name(0), most, m.number(0)));
            due("one more", m.isProved(0, 0), most == 1);
            RefinementMint n = withFunction(1, 1, false);
            n.setBody(0, n.match(n.name(0), n.number(0), 3, 4, n.claim(n.name(4), n.name(0), -most, n.number(0))));
            due("one less", n.isProved(0, 0), true);
            n.setBody(0, n.match(n.name(0), n.number(0), 3, 4, n.claim(n.name(0), n.name(4), most, n.number(0))));
            due("no less than one less", n.isProved(0, 0), most == 1);
            n.setBody(0, n.match(n.name(0), n.number(0), 3, 4, n.claim(n.number(most), n.name(4), 0, n.number(0))));
            due("the rest is not less than 0", n.isProved(0, 0), most == 0);
            n.setBody(0, n.match(n.name(0), n.number(0), 3, 4, n.claim(n.name(3), n.name(3), -most, n.number(0))));
            due("the first number is a thing", n.isProved(0, 0), most == 0);
            n.setBody(0, n.match(n.name(0), n.number(0), 3, 4, n.claim(n.number(0), n.name(3), 99, n.number(0))));
            due("of which nothing is known", n.isProved(0, 0), false);
        }
        RefinementMint k = withFunction(0, 0, false);
        k.setBody(0, k.claim(k.empty(), k.number(0), 0, k.claim(k.number(0), k.empty(), 0, k.number(0))));
        due("the empty list is 0", k.isProved(0, 0), true);
        due("not more, not less", k.isProved(0, 1), true);
    }

    /** Terms, Ways: "A term plus a number is its part with the number more"; sums and calls are things of their own. */
    static void paragraphWaysValues() {
        for (int plus : of(-99, 99)) {
            for (int less = 0; less < 2; less++) {
                RefinementMint m = withFunction(1, 0, false);
                m.setBody(0, m.claim(m.plus(m.name(0), plus), m.name(0), plus - less == 98 || plus == 99 ? plus - less : Math.max(-99, plus - less), m.number(0)));
                boolean isBelow = plus == 99 && less == 1;
                due("plus " + plus, m.isProved(0, 0), !isBelow);
            }
        }
        RefinementMint n = withFunction(1, 0, false);
        n.setBody(0, n.claim(n.sum(n.number(1), n.number(1)), n.number(2), 99, n.number(0)));
        due("no more is known of a sum", n.isProved(0, 0), false);
        n.setBody(0, n.let(3, n.sum(n.number(1), n.number(1)), n.claim(n.name(3), n.name(3), 0, n.number(0))));
        due("but that it is itself", n.isProved(0, 0), true);
        n.setBody(0, n.let(3, n.sum(n.number(1), n.number(1)), n.claim(n.name(3), n.name(3), -1, n.number(0))));
        due("and not one less", n.isProved(0, 0), false);
    }

    /** Terms, Ways: "Behind a call, if the result is a list, that it is not less than 0; then what the function gives." */
    static void paragraphWaysFactsOfCalls() {
        for (int kind = 0; kind < 2; kind++) {
            for (int told = 0; told <= 4; told++) {
                RefinementMint m = withFunction(1, 0, kind == 1);
                for (int i = 0; i < told; i++) {
                    m.gives(0, 3, 0, i - 2);
                }
                m.addFunction(1, 0, false);
                int call = m.call(0, m.name(0), -1, -1);
                m.setBody(1, m.let(3, call, m.claim(m.name(3), m.name(0), -2, m.claim(m.number(0), m.name(3), 0, m.number(0)))));
                due("facts", m.facts(1, 0), kind + told);
                due("what is given", m.isProved(1, 0), told > 0);
                due("one fact more behind the claim", m.facts(1, 1), kind + told + 1);
                due("a list is not less than 0", m.isProved(1, 1), kind == 1);
                if (kind == 1) {
                    due("by its own fact", m.neededAt(1, 1, 0), 0);
                }
            }
        }
    }

    /** Terms, Ways: "Behind a claim, what it claims": from there on, and not one less. */
    static void paragraphWaysFactsOfClaims() {
        RefinementMint m = withFunction(2, 0, false);
        int last = m.claim(m.name(0), m.name(1), 4, m.number(0));
        m.setBody(0, m.claim(m.name(0), m.name(1), 5, m.claim(m.name(0), m.name(1), 5, last)));
        due("not ahead of it", m.isProved(0, 0), false);
        due("behind it", m.isProved(0, 1), true);
        due("not one less", m.isProved(0, 2), false);
        due("facts ahead", m.facts(0, 0), 0);
        due("facts behind one", m.facts(0, 1), 1);
        due("facts behind two", m.facts(0, 2), 2);
    }

    /** Terms, What is to be proved: "first each atom that the function needs, 'p', then .. 'm'; at a claim, 'a'; at the end .. 'e'". */
    static void paragraphProvedInTheirOrder() {
        RefinementMint m = withFunction(1, 0, false);
        m.needs(0, 0, -1, 9);
        m.needs(0, -1, 0, 5);
        m.gives(0, 3, -1, 1);
        m.gives(0, -1, 3, 1);
        m.setBody(0, m.claim(m.name(0), m.number(0), 3, m.call(0, m.name(0), -1, -1)));
        String kinds = "appmee";
        due("conditions", m.conditions(0), 6);
        for (int i = 0; i < 6; i++) {
            due("kind " + i, m.kindOf(0, i), kinds.charAt(i));
        }
        due("facts: nothing is learned between those of a call", m.facts(0, 1), m.facts(0, 3));
        due("two at the end more", m.facts(0, 4), m.facts(0, 3) + 2);
        due("both at the end alike", m.facts(0, 5), m.facts(0, 4));
    }

    /** Terms, What is to be proved: "at the end, each atom that the function itself gives": of its own parameters, whatever it called. */
    static void paragraphProvedEndsBehindCalls() {
        for (int most = 4; most <= 5; most++) {
            RefinementMint m = withFunction(2, 0, false);
            m.addFunction(2, 0, false);
            m.gives(0, 3, 0, 0);
            m.gives(1, 3, 0, most);
            m.gives(1, 0, 1, most - 5);
            m.needs(1, 0, 1, 0);
            m.setBody(1, m.plus(m.call(0, m.name(0), m.number(9), -1), 5));
            due("the first less the second one", m.isProved(1, 0), most == 5);
            due("the result less the first one", m.isProved(1, 1), most == 5);
        }
    }

    /** Terms, What is to be proved: "What comes ahead of a parting of ways comes once." What comes behind it comes on each. */
    static void paragraphProvedOnceAheadOfAParting() {
        for (int place = 0; place < 5; place++) {
            RefinementMint m = withFunction(1, 0, false);
            int[] part = {m.name(0), m.number(1), m.number(2), m.number(3)};
            if (place < 4) {
                part[place] = m.claim(m.name(0), m.number(0), 0, part[place]);
            }
            int body = m.choice('<', part[0], part[1], part[2], part[3]);
            m.setBody(0, place == 4 ? m.let(3, body, m.claim(m.name(0), m.number(0), 0, m.name(3))) : body);
            due("claim in part " + place, m.conditions(0), place == 4 ? 2 : 1);
            due("facts ahead of it", m.facts(0, 0), place < 2 ? 0 : 1);
            m.gives(0, 3, -1, 50);
            due("and each end", m.conditions(0), place == 4 ? 4 : 3);
            due("the last one is an end", m.kindOf(0, m.conditions(0) - 1), 'e');
        }
        RefinementMint n = withFunction(1, 1, false);
        n.setBody(0, n.match(n.claim(n.name(0), n.number(5), 0, n.name(0)), n.number(1), 3, 4, n.number(2)));
        due("ahead of a match", n.conditions(0), 1);
    }

    /** Terms, What is to be proved: the first way comes ahead of the second one. */
    static void paragraphProvedFirstWayFirst() {
        RefinementMint m = withFunction(1, 0, false);
        int one = m.claim(m.name(0), m.number(0), 1, m.number(0));
        int two = m.claim(m.name(0), m.number(0), 2, m.number(0));
        int three = m.claim(m.name(0), m.number(0), 3, m.number(0));
        int inner = m.choice('=', m.name(0), m.number(7), two, three);
        int behind = m.claim(m.name(0), m.number(0), 4, m.number(0));
        m.setBody(0, m.sum(m.choice('<', m.name(0), m.number(9), one, inner), behind));
        int[] terms = {one, behind, two, behind, three, behind};
        due("conditions", m.conditions(0), 6);
        for (int i = 0; i < 6; i++) {
            due("term " + i, m.termOf(0, i), terms[i]);
        }
    }

    /** Terms, What is to be proved: "Atoms are in their order: by their first thing, then their second one (nothing, the parameters, the result), then their number." */
    static void paragraphProvedAtomsInOrder() {
        // none follows from others, as the numbers are alike
        int[][] atoms = {{-1, 0, 57}, {-1, 1, 50}, {-1, 3, 59}, {0, -1, 55}, {0, 1, 51}, {0, 3, 58}, {1, -1, 52}, {1, 0, 56},
            {1, 3, 53}, {3, -1, 54}, {3, 0, 50}, {3, 1, 57}};
        for (int from = 0; from + 4 <= atoms.length; from++) {
            for (int turn = 0; turn < 4; turn++) {
                inOrder(java.util.Arrays.copyOfRange(atoms, from, from + 4), turn);
            }
        }
        int[][] numbers = {{0, 1, -99}, {0, 1, -1}, {0, 1, 0}, {0, 1, 99}};
        for (int turn = 0; turn < 4; turn++) {
            inOrder(numbers, turn);
        }
    }

    /** Told in some other order, the atoms are facts in this one. Of those from which one follows, the last is needed. */
    private static void inOrder(int[][] atoms, int turn) {
        RefinementMint m = withFunction(2, 0, false);
        for (int i = 0; i < 4; i++) {
            int[] atom = atoms[(i * 3 + turn) % 4];
            m.gives(0, atom[0], atom[1], atom[2]);
        }
        m.addFunction(2, 0, false);
        for (int i = 0; i < 4; i++) {
            int call = m.call(0, m.name(0), m.name(1), -1);
            int claim = m.claim(of(m, atoms[i][0]), of(m, atoms[i][1]), atoms[i][2], m.number(0));
            m.setBody(1, m.let(3, call, claim));
            due("proved", m.isProved(1, 0), true);
            due("by one fact", m.needed(1, 0), 1);
            due("its place", m.neededAt(1, 0, 0), i);
        }
    }

    private static int of(RefinementMint m, int thing) {
        return thing == -1 ? m.number(0) : m.name(thing);
    }

    private static boolean follows(int told, int claimed) {
        RefinementMint m = withFunction(1, 0, false);
        m.needs(0, 0, -1, told);
        m.setBody(0, m.claim(m.name(0), m.number(0), claimed, m.number(0)));
        return m.isProved(0, 0);
    }

    /** Terms, What is to be proved: "A condition is proved if it holds for all whole numbers for which all facts ahead of it on the way hold." */
    static void paragraphProvedForAllWholeNumbers() {
        due("the same number", follows(5, 5), true);
        due("one more", follows(5, 6), true);
        due("one less", follows(5, 4), false);
        for (int most = -4; most <= -1; most++) {
            RefinementMint m = withFunction(3, 0, false);
            int claim = m.claim(m.name(0), m.name(2), most, m.number(0));
            int inner = m.choice('<', m.name(1), m.name(2), claim, m.number(0));
            m.setBody(0, m.choice('<', m.name(0), m.name(1), inner, m.number(0)));
            due("x < y < z: x - z <= " + most, m.isProved(0, 0), most >= -2);
        }
        for (int most = 0; most <= 1; most++) {
            RefinementMint m = withFunction(2, 0, false);
            m.needs(0, 0, 1, most);
            m.needs(0, 1, 0, -1);
            int claim = m.claim(m.name(0), m.number(0), -99, m.number(0));
            m.setBody(0, claim);
            due("numbers at most 0 and at least 1 apart", m.isProved(0, 0), most == 0);
        }
    }

    /** Terms, What is to be proved: "for all whole numbers": a row of numbers from which one after the other is left out. */
    static void paragraphProvedWhereNoNumberIsLeft() {
        for (int width = 0; width <= 3; width++) {
            for (int left = -1; left <= width; left++) {
                RefinementMint m = withFunction(1, 0, false);
                m.needs(0, -1, 0, 0);
                m.needs(0, 0, -1, width);
                int term = wrong(m);
                for (int number = 0; number <= width; number++) {
                    if (number != left) {
                        term = m.choice('=', m.name(0), m.number(number), m.number(0), term);
                    }
                }
                m.setBody(0, term);
                m.addFunction(1, 0, false);
                m.setBody(1, wrong(m));
                due("all but " + left + " of " + width, m.isProved(0, 0), left == -1);
                if (left >= 0) {
                    due("that one", m.example(0, 0, 0), left);
                } else {
                    due("by all facts", m.needed(0, 0), m.facts(0, 0));
                }
            }
        }
    }

    /** Three numbers, each unlike the two others, from 0 to some number. */
    private static RefinementMint apart(int most, boolean isUnlikeFirst) {
        RefinementMint m = withFunction(3, 0, false);
        int term = wrong(m);
        for (int turn = 0; turn < 2; turn++) {
            for (int i = 2; i >= 0; i--) {
                if (isUnlikeFirst == (turn == 1)) {
                    term = m.choice('=', m.name(i), m.name((i + 1) % 3), m.number(0), term);
                } else {
                    term = m.claim(m.number(0), m.name(i), 0, m.claim(m.name(i), m.number(most), 0, term));
                }
            }
        }
        m.setBody(0, term);
        return m;
    }

    /** Terms, What is to be proved: "for all whole numbers": three that are all unlike find no room in two, and room in three. */
    static void paragraphProvedWhereAllAreUnlike() {
        for (int order = 0; order < 2; order++) {
            for (int most = 0; most <= 2; most++) {
                RefinementMint m = apart(most, order == 1);
                due("facts", m.facts(0, 6), 9);
                due("from 0 to " + most, m.isProved(0, 6), most < 2);
                if (most == 1) {
                    due("by all of them", m.needed(0, 6), 9);
                    due("the last one", m.neededAt(0, 6, 8), 8);
                }
                if (most == 2) {
                    due("0", m.example(0, 6, 0), 0);
                    due("1", m.example(0, 6, 1), 1);
                    due("2", m.example(0, 6, 2), 2);
                    due("but a claim comes ahead", m.isReal(0, 6), true);
                }
                due("sound", m.isSound(), true);
            }
        }
    }

    /** Terms, Ways: "Each way has values": a term of each kind between two others changes nothing of theirs. */
    static void paragraphWaysValuesBesideOthers() {
        for (int kind = 0; kind <= 10; kind++) {
            for (int most = 6; most <= 7; most++) {
                RefinementMint m = withFunction(3, kind < 8 ? 0 : 2, false);
                m.addFunction(3, 4, false);
                m.needs(0, 0, 2, most);
                m.needs(1, 0, 1, 7);
                m.setBody(1, m.sum(m.number(5), m.call(0, m.name(0), ofKind(m, kind), m.name(1))));
                due("no error", m.error(1), '-');
                int last = m.conditions(1) - 1;
                due("the need", m.kindOf(1, last), 'p');
                due("beside kind " + kind + ", at most " + most, m.isProved(1, last), most == 7);
            }
        }
    }

    /** A term of each kind: up to 7 numbers, and then lists. */
    private static int ofKind(RefinementMint m, int kind) {
        switch (kind) {
            case 0:
                return m.number(3);
            case 1:
                return m.name(1);
            case 2:
                return m.plus(m.name(0), 9);
            case 3:
                return m.sum(m.name(0), m.number(1));
            case 4:
                return m.let(0, m.name(1), m.name(0));
            case 5:
                return m.choice('<', m.name(1), m.number(50), m.name(1), m.number(1));
            case 6:
                return m.match(m.name(2), m.name(0), 0, 1, m.name(0));
            case 7:
                return m.claim(m.empty(), m.number(9), 0, m.name(0));
            case 8:
                return m.empty();
            case 9:
                return m.ahead(m.name(1), m.ahead(m.name(1), m.name(2)));
            default:
                return m.let(0, m.ahead(m.number(1), m.empty()), m.match(m.name(0), m.name(2), 0, 1, m.name(1)));
        }
    }

    /** Terms, Ways: "results of calls" and "sums of two terms" are things: as many as a body can have. */
    static void paragraphWaysManyThings() {
        for (int most = 4; most <= 5; most++) {
            RefinementMint m = withFunction(0, 0, false);
            m.gives(0, 3, -1, 5);
            m.addFunction(3, 0, false);
            int term = m.call(0, -1, -1, -1);
            for (int i = 1; i < 56; i++) {
                term = m.sum(term, m.call(0, -1, -1, -1));
            }
            int others = m.claim(m.call(0, -1, -1, -1), m.call(0, -1, -1, -1), 0, m.number(0));
            m.setBody(1, m.sum(term, m.claim(m.call(0, -1, -1, -1), m.number(0), most, others)));
            due("facts", m.facts(1, 0), 57);
            due("a late call's result is at most " + most, m.isProved(1, 0), most == 5);
            if (most == 5) {
                due("by the last fact", m.neededAt(1, 0, 0), 56);
            }
            due("facts", m.facts(1, 1), 60);
            due("the last two are two things", m.isProved(1, 1), false);
        }
    }

    /** Terms, Rings and metrics: "if the call goes on in a ring of calls and none of both functions is lazy". */
    static void paragraphRingsLazy() {
        for (int lazy = 0; lazy < 4; lazy++) {
            RefinementMint m = fresh();
            for (int i = 0; i < 3; i++) {
                m.addFunction(0, 0, false);
            }
            m.setBody(0, m.call(1, -1, -1, -1));
            m.setBody(1, m.call(0, -1, -1, -1));
            m.setBody(2, m.call(0, -1, -1, -1));
            m.setLazy(0, lazy % 2 == 1);
            m.setLazy(1, lazy > 1);
            due("of the first", m.conditions(0), lazy == 0 ? 1 : 0);
            due("of the second", m.conditions(1), lazy == 0 ? 1 : 0);
            due("into the ring, not in it", m.conditions(2), 0);
            due("in a ring, lazy or not", m.isInRing(0), true);
        }
    }

    /** Terms, Rings and metrics: "the called function is the one in whose body it stands, or can come to it by calls in bodies without errors". */
    static void paragraphRingsOfAllLengths() {
        for (int length = 1; length <= 6; length++) {
            RefinementMint m = fresh();
            for (int i = 0; i < 6; i++) {
                m.addFunction(0, 0, false);
            }
            for (int i = 0; i < 6; i++) {
                m.setBody(i, m.call(i + 1 == length ? 0 : (i + 1) % 6, -1, -1, -1));
            }
            for (int i = 0; i < 6; i++) {
                due("function " + i + " of a ring of " + length, m.isInRing(i), i < length);
                due("metric", m.conditions(i), i < length ? 1 : 0);
            }
            m.setBody(length - 1, m.sum(m.call(0, -1, -1, -1), m.name(0)));
            for (int i = 0; i < 6; i++) {
                due("with an error in it", m.isInRing(i), false);
            }
        }
    }

    /** A function of two numbers, each of them at least 0 and the first at least 1, that calls itself with these more. */
    private static RefinementMint calling(int firstMore, int secondMore) {
        RefinementMint m = withFunction(2, 0, false);
        m.needs(0, -1, 0, -1);
        m.needs(0, -1, 1, 0);
        m.setBody(0, m.call(0, m.plus(m.name(0), firstMore), m.plus(m.name(1), secondMore), -1));
        return m;
    }

    private static boolean getsLess(RefinementMint m) {
        due("a metric", m.kindOf(0, 2), 'm');
        return m.isProved(0, 2);
    }

    /** Terms, Rings and metrics: "if the first place for the called function is less than that of the calling one .. and that of the called function is not less than 0". */
    static void paragraphRingsOnePlace() {
        for (int more = -2; more <= 1; more++) {
            for (int plus = -2; plus <= 2; plus++) {
                RefinementMint m = calling(more, 0);
                m.metric(0, 0, plus, -1, 0);
                due(more + " more, with " + plus, getsLess(m), more < 0 && 1 + more + plus >= 0);
            }
        }
    }

    /** Terms, Rings and metrics: "or both are the same and the second places do so". */
    static void paragraphRingsTwoPlaces() {
        for (int first = -1; first <= 1; first++) {
            for (int second = -2; second <= 1; second++) {
                for (int plus = 0; plus <= 2; plus++) {
                    RefinementMint m = calling(first, second);
                    m.metric(0, 0, 0, 1, plus);
                    due("two places", getsLess(m), first < 0 || first == 0 && second < 0 && second + plus >= 0);
                    m.metric(0, 0, -99, 1, plus);
                    due("the first place below 0", getsLess(m), first == 0 && second < 0 && second + plus >= 0);
                }
            }
        }
        RefinementMint m = calling(-1, 0);
        m.metric(0, 0, 0, 0, 0);
        due("the same place twice", getsLess(m), true);
    }

    /** Terms, Rings and metrics: the places of the called function are its own, "at the beginning of the way" those of the calling one. */
    static void paragraphRingsPlacesOfBoth() {
        RefinementMint m = withFunction(2, 0, false);
        m.addFunction(1, 0, false);
        m.needs(0, -1, 1, 0);
        m.setBody(0, m.let(1, m.number(99), m.call(1, m.plus(m.name(0), 0), -1, -1)));
        m.setBody(1, m.call(0, m.number(0), m.name(0), -1));
        m.metric(0, 1, 1, -1, 0);
        m.metric(1, 0, 0, -1, 0);
        due("the first parameter is not the second one", m.isProved(0, 0), false);
        m.setBody(0, m.call(1, m.name(1), -1, -1));
        due("y < y + 1", m.isProved(0, 0), true);
        m.metric(1, 0, 1, -1, 0);
        due("y + 1 < y + 1", m.isProved(0, 0), false);
    }

    /** Terms, Rings and metrics: "and the second places do so": the one for the called function is its own. */
    static void paragraphRingsSecondPlacesOfBoth() {
        RefinementMint m = withFunction(2, 0, false);
        m.addFunction(2, 0, false);
        m.needs(0, -1, 1, 0);
        m.setBody(0, m.call(1, m.name(0), m.name(1), -1));
        m.setBody(1, m.call(0, m.name(0), m.name(1), -1));
        m.metric(0, 0, 0, 1, 1);
        for (int plus = -1; plus <= 1; plus++) {
            m.metric(1, 0, 0, 1, plus);
            due("0 <= y + " + plus + " < y + 1", m.isProved(0, 0), plus == 0);
        }
        m.metric(1, 0, 0, 0, 0);
        due("the first parameter is not the second one", m.isProved(0, 0), false);
        m.needs(0, 0, 1, 0);
        due("x < y + 1, but x may be below 0", m.isProved(0, 0), false);
        m.needs(0, -1, 0, 0);
        due("0 <= x < y + 1", m.isProved(0, 0), true);
    }

    /** Terms, Rings and metrics: "If one has no metric, or they have unlike numbers of places, it is not proved." */
    static void paragraphRingsNoMetric() {
        for (int own = 0; own <= 2; own++) {
            for (int other = 0; other <= 2; other++) {
                RefinementMint m = withFunction(1, 0, false);
                m.addFunction(1, 0, false);
                m.needs(0, -1, 0, -1);
                // facts that can not be, so that all else is proved
                m.needs(0, 0, -1, 0);
                m.setBody(0, m.call(1, m.plus(m.name(0), -1), -1, -1));
                m.setBody(1, m.call(0, m.name(0), -1, -1));
                for (int f = 0; f < 2; f++) {
                    int places = f == 0 ? own : other;
                    if (places > 0) {
                        m.metric(f, 0, 0, places == 2 ? 0 : -1, 0);
                    }
                }
                due("places " + own + " and " + other, m.isProved(0, 0), own == other && own > 0);
                fails("no example", NONE, () -> m.example(0, 0, 0));
                fails("nor a real one", NONE, () -> m.isReal(0, 0));
            }
        }
    }

    private static boolean isFound(int number, int most) {
        RefinementMint m = withFunction(1, 0, false);
        m.findNeeds(0);
        m.pattern(1, 0, most);
        m.setBody(0, m.name(0));
        m.addFunction(0, 0, false);
        m.setBody(1, m.call(0, m.number(number), -1, -1));
        return m.doesNeed(0, 0, -1, most);
    }

    /** Terms, Finding: "each atom of what a called function needs .. holds for all whole numbers for which all facts ahead of it hold". */
    static void paragraphFindingNeeds() {
        due("5 is at most 5", isFound(5, 5), true);
        due("5 is at most 6", isFound(5, 6), true);
        due("5 is not at most 4", isFound(5, 4), false);
        due("99 is at most 99", isFound(99, 99), true);
        due("-99 is at most -99", isFound(-99, -99), true);
        due("-98 is not at most -99", isFound(-98, -99), false);
    }

    /** Terms, Finding: "and each one of what the function itself gives": on each way. */
    static void paragraphFindingGives() {
        for (int most = -1; most <= 1; most++) {
            RefinementMint m = withFunction(1, 0, false);
            m.findGives(0);
            m.pattern(2, 1, most);
            m.setBody(0, m.name(0));
            due("at the only end, " + most, m.allGives(0), most >= 0 ? 1 : 0);
            m.setBody(0, m.choice('<', m.name(0), m.number(9), m.plus(m.name(0), -1), m.plus(m.name(0), 1)));
            due("at both ends, " + most, m.allGives(0), most >= 1 ? 1 : 0);
        }
    }

    /** Terms, Finding: "for all functions together": one that falls lets others fall, and one that holds for the ring stays. */
    static void paragraphFindingTogether() {
        for (int start = -1; start <= 1; start++) {
            RefinementMint m = fresh();
            for (int i = 0; i < 5; i++) {
                m.addFunction(1, 0, false);
                m.findNeeds(i);
            }
            for (int i = 0; i < 5; i++) {
                m.setBody(i, m.call((i + 1) % 5, m.name(0), -1, -1));
            }
            m.pattern(0, 1, 0);
            for (int i = 0; i < 5; i++) {
                due("in a ring of five", m.allNeeds(i), 1);
            }
            m.addFunction(0, 0, false);
            m.setBody(5, m.call(2, m.number(start), -1, -1));
            for (int i = 0; i < 5; i++) {
                due("called with " + start, m.allNeeds(i), start < 0 ? 0 : 1);
            }
        }
    }

    /** Terms, Finding: "on each way of each body without an error"; "For a function with an error, nothing is found." */
    static void paragraphFindingWithErrors() {
        RefinementMint m = withFunction(1, 0, false);
        m.findNeeds(0);
        m.findGives(0);
        m.pattern(0, 1, 0);
        due("without a body", m.allNeeds(0), 0);
        m.setBody(0, m.name(0));
        due("with a body", m.allNeeds(0), 1);
        due("it gives it, too", m.allGives(0), 1);
        m.addFunction(0, 0, false);
        m.setBody(1, m.sum(m.call(0, m.number(-1), -1, -1), m.name(0)));
        due("a call in a body with an error", m.allNeeds(0), 1);
        m.setBody(1, m.sum(m.call(0, m.number(-1), -1, -1), m.number(0)));
        due("a call in a body without one", m.allNeeds(0), 0);
        m.setBody(1, m.number(0));
        due("no such call any more", m.allNeeds(0), 1);
        m.setBody(0, m.name(9));
        due("with an error", m.allNeeds(0), 0);
        due("with an error", m.allGives(0), 0);
        m.needs(0, -1, 0, 0);
        due("what is told stays", m.allNeeds(0), 1);
    }

    /** Terms, Facts needed: "each one is left out for good if it is proved without it; those that are left are needed." */
    static void paragraphFactsNeeded() {
        RefinementMint m = withFunction(1, 0, false);
        for (int i = 1; i <= 4; i++) {
            m.needs(0, 0, -1, i);
        }
        m.setBody(0, m.claim(m.name(0), m.number(0), 4, m.claim(m.name(0), m.number(0), 1, m.number(0))));
        due("the last of all that would do", m.needed(0, 0), 1);
        due("the last one", m.neededAt(0, 0, 0), 3);
        due("the only one that would do", m.needed(0, 1), 1);
        due("the first one", m.neededAt(0, 1, 0), 0);
        RefinementMint n = withFunction(1, 0, false);
        n.needs(0, 0, -1, 5);
        n.setBody(0, n.claim(n.name(0), n.name(0), 0, n.claim(n.name(0), n.number(0), 5, n.claim(n.name(0), n.number(0), 5, n.number(0)))));
        due("what always holds needs none", n.needed(0, 0), 0);
        due("one", n.neededAt(0, 1, 0), 0);
        due("of alike ones the later one", n.needed(0, 2), 1);
        due("the last claim's", n.neededAt(0, 2, 0), 2);
    }

    /** Terms, Facts needed: of facts that can not be together, those that are left. */
    static void paragraphFactsNeededOfThoseThatCanNotBe() {
        RefinementMint m = withFunction(2, 0, false);
        m.needs(0, -1, 0, -1);
        m.needs(0, 0, -1, 0);
        m.needs(0, -1, 1, -1);
        m.needs(0, 1, -1, 0);
        m.setBody(0, m.claim(m.number(1), m.number(0), 0, m.number(0)));
        due("proved", m.isProved(0, 0), true);
        due("two of four", m.needed(0, 0), 2);
        due("of the second parameter", m.neededAt(0, 0, 0), 1);
        due("of the second parameter", m.neededAt(0, 0, 1), 3);
    }

    private static RefinementMint beyond(int number, boolean isAbove) {
        RefinementMint m = withFunction(1, 0, false);
        int bound = great(m, number);
        m.setBody(0, isAbove ? m.claim(m.name(0), bound, -1, m.number(0)) : m.claim(bound, m.name(0), -1, m.number(0)));
        return m;
    }

    /** Terms, Examples against: "If there is none from -600 to 600 for one of them, there is no example." */
    static void paragraphExamplesFarthest() {
        due("600", beyond(600, true).example(0, 0, 0), 600);
        fails("601", NONE, () -> beyond(601, true).example(0, 0, 0));
        fails("601", NONE, () -> beyond(601, true).isReal(0, 0));
        due("-600", beyond(-600, false).example(0, 0, 0), -600);
        fails("-601", NONE, () -> beyond(-601, false).example(0, 0, 0));
        fails("-601", NONE, () -> beyond(-601, false).isReal(0, 0));
        for (int last = 1; last < 3; last++) {
            int far = last;
            RefinementMint m = withFunction(3, 0, false);
            m.setBody(0, m.claim(m.name(far), great(m, 600), -1, m.number(0)));
            due("the last one", m.example(0, 0, far), 600);
            m.setBody(0, m.claim(m.name(far), great(m, 601), -1, m.number(0)));
            fails("the last one", NONE, () -> m.example(0, 0, far));
            fails("the first one then, too", NONE, () -> m.example(0, 0, 0));
        }
    }

    /** Terms, Examples against: "the number nearest to 0, of two the one greater than 0". */
    static void paragraphExamplesNearest() {
        for (int width = 0; width <= 3; width++) {
            RefinementMint m = withFunction(1, 0, false);
            m.setBody(0, m.choice('<', m.number(width), m.name(0), wrong(m), m.number(0)));
            due("above only", m.example(0, 0, 0), width + 1);
            m.setBody(0, m.choice('<', m.name(0), m.number(-width), wrong(m), m.number(0)));
            due("below only", m.example(0, 0, 0), -width - 1);
            due("real", m.isReal(0, 0), true);
            int both = wrong(m);
            for (int i = -width; i <= width; i++) {
                both = m.choice('=', m.name(0), m.number(i), m.number(0), both);
            }
            m.setBody(0, both);
            due("above and below", m.example(0, 0, 0), width + 1);
            due("real", m.isReal(0, 0), true);
        }
        RefinementMint n = withFunction(1, 0, false);
        n.setBody(0, n.choice('=', n.name(0), n.number(0), n.number(0), n.claim(n.number(1), n.number(0), 0, n.number(0))));
        due("of 1 and -1 the one greater than 0", n.example(0, 0, 0), 1);
        n.needs(0, 0, -1, 0);
        due("-1 if 1 can not be", n.example(0, 0, 0), -1);
        n.setBody(0, n.claim(n.number(1), n.number(0), 0, n.number(0)));
        due("0 comes first", n.example(0, 0, 0), 0);
    }

    private static int wrong(RefinementMint m) {
        return m.claim(m.number(1), m.number(0), 0, m.number(0));
    }

    /** Terms, Examples against: "with the numbers of those ahead of it, there are whole numbers for all other things". */
    static void paragraphExamplesOneBehindAnother() {
        for (int far = 600; far <= 601; far++) {
            RefinementMint m = withFunction(2, 0, false);
            // breaks where the second one is at least so far above the first one, which gets 0 however far that is
            m.setBody(0, m.claim(m.plus(m.name(1), 0), m.let(3, m.name(0), up(m, m.name(3), far)), -1, m.number(0)));
            if (far == 600) {
                due("the first", m.example(0, 0, 0), 0);
                due("the second", m.example(0, 0, 1), 600);
            } else {
                fails("none for the second", NONE, () -> m.example(0, 0, 1));
                fails("so none for the first", NONE, () -> m.example(0, 0, 0));
            }
        }
        RefinementMint n = withFunction(2, 0, false);
        n.needs(0, 1, 0, -3);
        n.setBody(0, n.claim(n.number(1), n.number(0), 0, n.number(0)));
        due("0 for the first", n.example(0, 0, 0), 0);
        due("what is left for the second", n.example(0, 0, 1), -3);
    }

    private static int up(RefinementMint m, int term, int number) {
        int left = number;
        int all = term;
        while (left > 0) {
            all = m.plus(all, Math.min(99, left));
            left -= 99;
        }
        return all;
    }

    /** Terms, Examples against: a list gets no number below 0, as that is a fact. */
    static void paragraphExamplesOfLists() {
        for (int lists = 0; lists < 2; lists++) {
            RefinementMint m = withFunction(1, lists, false);
            m.setBody(0, m.choice('=', m.name(0), m.number(0), m.number(0),
                    m.choice('=', m.name(0), m.number(1), m.number(0), m.claim(m.number(1), m.number(0), 0, m.number(0)))));
            due("but 0 and 1", m.example(0, 0, 0), lists == 1 ? 2 : -1);
        }
    }

    /** Terms, Running: "First it is checked what it needs, then the body is run .., and what it gives is checked in the end". */
    static void paragraphRunningOrderOfChecks() {
        RefinementMint m = withFunction(1, 0, false);
        m.needs(0, 0, -1, 2);
        m.gives(0, 3, -1, 0);
        m.setBody(0, m.claim(m.name(0), m.number(0), 1, m.name(0)));
        due("needs ahead of all", m.run(0, 3, 0, 0), 'p');
        due("the claim ahead of the end", m.run(0, 2, 0, 0), 'a');
        due("the end", m.run(0, 1, 0, 0), 'e');
        due("all hold", m.run(0, 0, 0, 0), 'v');
        due("checks", m.checks(), 3);
        m.addFunction(1, 0, false);
        m.gives(1, 3, -1, -99);
        m.setBody(1, m.call(0, m.name(0), -1, -1));
        due("a call's needs", m.run(1, 3, 0, 0), 'p');
        due("a call's claim", m.run(1, 2, 0, 0), 'a');
        due("a call's end", m.run(1, 1, 0, 0), 'e');
        due("three", m.checks(), 3);
        due("the end behind it", m.run(1, 0, 0, 0), 'e');
        due("four", m.checks(), 4);
    }

    /** Terms, Running: the bound of a check: "at most a number". */
    static void paragraphRunningBoundOfAtoms() {
        for (int most : of(-99, -1, 0, 1, 99)) {
            RefinementMint m = withFunction(2, 0, false);
            m.needs(0, 0, 1, most);
            m.setBody(0, m.number(0));
            due("at most " + most, m.run(0, most, 0, 0), 'v');
            due("one more", m.run(0, most, -1, 0), 'p');
        }
    }

    /** Terms, Running: "what it gives is checked in the end": with the parameters and the result of the call that ends. */
    static void paragraphRunningEndsOfEachCall() {
        for (int inner = 4; inner <= 5; inner++) {
            for (int outer = 6; outer <= 7; outer++) {
                RefinementMint m = withFunction(2, 0, false);
                m.addFunction(2, 0, false);
                m.gives(0, 3, 1, inner);
                m.gives(1, 3, 1, outer);
                m.setBody(0, m.plus(m.name(1), 5));
                m.setBody(1, m.sum(m.call(0, m.number(50), m.plus(m.name(1), 2), -1), m.number(0)));
                boolean isHeld = inner == 5 && outer == 7;
                due("5 more in the call, 7 around it", m.run(1, -50, 9, 0), isHeld ? 'v' : 'e');
                due("checks", m.checks(), inner == 5 ? 2 : 1);
            }
        }
    }

    private static RefinementMint stepping(int steps) {
        RefinementMint m = fresh();
        m.addFunction(0, 0, false);
        m.addFunction(0, 0, false);
        int term = m.number(1);
        for (int i = 1; i < 98; i++) {
            term = m.plus(term, 0);
        }
        m.setBody(0, term);
        int[] call = new int[4];
        for (int i = 0; i < 4; i++) {
            call[i] = m.call(0, -1, -1, -1);
        }
        int body = m.sum(m.sum(call[0], call[1]), m.sum(call[2], call[3]));
        for (int i = 399; i < steps; i++) {
            body = m.plus(body, 0);
        }
        m.setBody(1, body);
        return m;
    }

    /** Terms, Running: "Each term that begins to run is a step, of which there are at most 400 .. otherwise the run ends, 'l'." */
    static void paragraphRunningFourHundredSteps() {
        for (int few = 0; few < 2; few++) {
            for (int steps = 399; steps <= 402; steps++) {
                RefinementMint m = stepping(steps);
                char end = few == 1 ? m.runFew(1, 0, 0, 0) : m.run(1, 0, 0, 0);
                due("ends", end, steps <= 400 ? 'v' : 'l');
                due("steps", m.steps(), Math.min(400, steps));
                if (steps > 400) {
                    fails("no value", NONE, m::result);
                } else {
                    due("value", m.result(), 4);
                }
            }
        }
        RefinementMint m = stepping(400);
        m.gives(1, 3, -1, 3);
        due("the check of the end is no step", m.run(1, 0, 0, 0), 'e');
        RefinementMint n = stepping(401);
        n.gives(0, 3, -1, 0);
        due("an earlier check ends it", n.run(1, 0, 0, 0), 'e');
        due("in the first call", n.steps(), 2 + 2 + 1 + 98);
    }

    /** A function that calls itself with one less until it is 0, each call a choice with five parts. */
    private static RefinementMint down() {
        RefinementMint m = withFunction(1, 0, false);
        m.setBody(0, m.choice('=', m.name(0), m.number(0), m.number(0), m.call(0, m.plus(m.name(0), -1), -1, -1)));
        return m;
    }

    /** Terms, Running: "each call begins within at most 30 other calls .. otherwise the run ends, 'l'". */
    static void paragraphRunningThirtyCalls() {
        RefinementMint m = down();
        due("within 29 others", m.run(0, 30, 0, 0), 'v');
        due("within 30 others", m.run(0, 31, 0, 0), 'v');
        due("within 31 others", m.run(0, 32, 0, 0), 'l');
        due("with few checks", m.runFew(0, 31, 0, 0), 'v');
        due("with few checks", m.runFew(0, 32, 0, 0), 'l');
        RefinementMint n = withFunction(0, 0, false);
        n.addFunction(0, 0, false);
        n.setBody(0, n.number(1));
        int all = n.call(0, -1, -1, -1);
        for (int i = 1; i < 50; i++) {
            all = n.sum(all, n.call(0, -1, -1, -1));
        }
        n.setBody(1, all);
        due("50 beside each other", n.run(1, 0, 0, 0), 'v');
        due("50", n.result(), 50);
        RefinementMint k = withFunction(1, 0, false);
        k.addFunction(0, 0, false);
        int within = k.number(5);
        for (int i = 0; i < 50; i++) {
            within = k.call(0, within, -1, -1);
        }
        k.setBody(0, k.name(0));
        k.setBody(1, within);
        due("50 as parts of each other, each behind its part", k.run(1, 0, 0, 0), 'v');
        due("5", k.result(), 5);
    }

    /** Terms, Running: "which is looked at behind its parts and ahead of what is needed". */
    static void paragraphRunningThirtyCallsBehindParts() {
        RefinementMint m = withFunction(1, 0, false);
        m.needs(0, -1, 0, 0);
        m.setBody(0, m.call(0, m.plus(m.name(0), -1), -1, -1));
        due("needs of the last call that finds room", m.run(0, 30, 0, 0), 'p');
        due("checks of the first one and 31 calls", m.checks(), 32);
        due("steps", m.steps(), 31 * 3);
        due("no needs of the next one", m.run(0, 31, 0, 0), 'l');
        due("checks of the first one and 31 calls", m.checks(), 32);
        due("its parts are run", m.steps(), 32 * 3);
        RefinementMint n = withFunction(1, 0, false);
        n.setBody(0, n.call(0, n.claim(n.number(0), n.name(0), -1, n.plus(n.name(0), -1)), -1, -1));
        due("a claim in a part of the first that finds none", n.run(0, 31, 0, 0), 'a');
        due("it holds", n.run(0, 32, 0, 0), 'l');
    }

    private static int doubled(RefinementMint m, int term, int times) {
        int all = term;
        for (int i = 0; i < times; i++) {
            all = m.let(9, all, m.sum(m.name(9), m.name(9)));
        }
        return all;
    }

    /** 1000000 or -1000000, as ((122 * 128) + 9) * 64. */
    private static int million(RefinementMint m, int sign) {
        return doubled(m, m.plus(doubled(m, great(m, 122 * sign), 7), 9 * sign), 6);
    }

    /** Terms, Running: "A number less than -1000000 or greater than 1000000 ends it where it is made, 'o'." */
    static void paragraphRunningGreatNumbers() {
        for (int sign = -1; sign <= 1; sign += 2) {
            for (int more = 0; more <= 1; more++) {
                RefinementMint m = withFunction(1, 0, false);
                m.setBody(0, m.plus(million(m, sign), sign * more));
                due("plus " + more, m.run(0, 0, 0, 0), more == 0 ? 'v' : 'o');
                RefinementMint n = withFunction(1, 0, false);
                n.setBody(0, n.sum(n.name(0), million(n, sign)));
                due("a sum", n.run(0, sign * more, 0, 0), more == 0 ? 'v' : 'o');
                due("back again", n.run(0, -sign, 0, 0), 'v');
                due("below", n.result(), sign * 999999);
            }
            RefinementMint m = withFunction(1, 0, false);
            m.gives(0, 3, -1, -99);
            int made = m.plus(million(m, sign), sign);
            m.setBody(0, m.let(3, made, m.claim(m.number(1), m.number(0), 0, m.plus(m.name(3), -sign))));
            due("ends ahead of the claim, of the way back, and of the end", m.run(0, 0, 0, 0), 'o');
            due("no check", m.checks(), 0);
            due("steps: the let, and all that is made", m.steps(), 1 + made + 1);
            due("with few checks", m.runFew(0, 0, 0, 0), 'o');
        }
    }

    /** Terms, Running: "A function is run with numbers; a list is one of as many zeros." */
    static void paragraphRunningZeros() {
        RefinementMint m = withFunction(1, 1, false);
        m.setBody(0, m.match(m.name(0), m.number(7), 3, 4, m.match(m.name(4), m.plus(m.name(3), 8), 5, 6, m.sum(m.name(3), m.name(5)))));
        m.run(0, 0, 0, 0);
        due("none", m.result(), 7);
        m.run(0, 1, 0, 0);
        due("one zero", m.result(), 8);
        m.run(0, 99, 0, 0);
        due("two zeros", m.result(), 0);
    }

    /** Terms, Running: few checks leave out those of a call "if all conditions 'p' of the call term .. are proved on all ways". */
    static void paragraphRunningFewAtCalls() {
        for (int least = 0; least <= 2; least++) {
            RefinementMint m = withFunction(1, 0, false);
            m.addFunction(1, 0, false);
            m.needs(0, -1, 0, 0);
            m.needs(0, -1, 0, -least);
            m.setBody(0, m.name(0));
            // 1 below 0 or not: on the first way the number is at least 1, on the second one at most 0
            int way = m.choice('<', m.number(0), m.name(0), m.number(1), m.number(2));
            m.setBody(1, m.let(3, way, m.call(0, m.name(0), -1, -1)));
            m.needs(1, -1, 0, 0);
            int atoms = m.allNeeds(0);
            due("all", m.run(1, 5, 0, 0), 'v');
            due("all", m.checks(), 1 + atoms);
            due("few", m.runFew(1, 5, 0, 0), 'v');
            due("few", m.checks(), least == 0 ? 1 : 1 + atoms);
            due("ends so", m.runFew(1, 0, 0, 0), m.run(1, 0, 0, 0));
        }
    }

    /** Terms, Running: an 'm' that is not proved does not matter for few checks. */
    static void paragraphRunningFewWithoutMetric() {
        RefinementMint m = withFunction(1, 0, false);
        m.needs(0, -1, 0, 0);
        m.setBody(0, m.choice('<', m.number(0), m.name(0), m.call(0, m.plus(m.name(0), -1), -1, -1), m.number(0)));
        due("not proved", m.isProved(0, 1), false);
        due("few", m.runFew(0, 3, 0, 0), 'v');
        due("only the first need", m.checks(), 1);
    }

    /** Terms, Running: few checks leave out "the check of a claim term .. if all conditions .. 'a' of the claim term .. are proved on all ways". */
    static void paragraphRunningFewAtClaims() {
        for (int sure = 0; sure < 2; sure++) {
            RefinementMint m = withFunction(1, 0, false);
            int way = m.choice('<', m.number(0), m.name(0), m.number(1), m.number(2));
            m.setBody(0, m.let(3, way, m.claim(m.number(0), m.name(0), 0, m.claim(m.number(0), m.name(0), 5, m.number(1)))));
            if (sure == 1) {
                m.needs(0, -1, 0, 0);
            }
            due("a way on which it is proved", m.isProved(0, 0), true);
            due("one on which it may not be", m.isProved(0, 2), sure == 1);
            due("behind it", m.isProved(0, 3), true);
            due("few", m.runFew(0, 5, 0, 0), 'v');
            due("the first claim, not the second one", m.checks(), 1);
            due("all", m.run(0, 5, 0, 0), 'v');
            due("both", m.checks(), 2 + sure);
        }
    }

    /** Terms, Running: few checks leave out "all checks at the end of a function, if all conditions .. 'e' of the end are proved on all ways". */
    static void paragraphRunningFewAtEnds() {
        for (int sure = 0; sure < 2; sure++) {
            RefinementMint m = withFunction(1, 0, false);
            m.addFunction(1, 0, false);
            m.gives(0, 0, 3, 0);
            m.gives(0, -1, 3, sure == 1 ? 0 : -1);
            m.setBody(0, m.choice('<', m.number(0), m.name(0), m.name(0), m.choice('<', m.name(0), m.number(0), m.number(0), m.number(0))));
            m.setBody(1, m.call(0, m.name(0), -1, -1));
            due("all", m.run(1, 5, 0, 0), 'v');
            due("all", m.checks(), 2);
            due("few", m.runFew(1, 5, 0, 0), 'v');
            due("few", m.checks(), sure == 1 ? 0 : 2);
            due("a run that ends there", m.runFew(1, 0, 0, 0), sure == 1 ? 'v' : 'e');
            due("and of itself", m.runFew(0, 0, 0, 0), sure == 1 ? 'v' : 'e');
        }
    }

    /** Terms, Running: "what the function that is run first needs is always checked. What is found is proved." */
    static void paragraphRunningFewFirstAndFound() {
        RefinementMint m = withFunction(1, 0, false);
        m.addFunction(1, 0, false);
        m.needs(0, 0, -1, 5);
        m.setBody(0, m.name(0));
        due("holds", m.runFew(0, 5, 0, 0), 'v');
        due("checked", m.checks(), 1);
        due("does not", m.runFew(0, 6, 0, 0), 'p');
        m.findNeeds(0);
        m.pattern(1, 0, 5);
        m.setBody(1, m.choice('<', m.number(5), m.name(0), m.number(0), m.call(0, m.name(0), -1, -1)));
        due("found", m.doesNeed(0, 0, -1, 5), true);
        due("run first", m.runFew(0, 6, 0, 0), 'p');
        due("called", m.runFew(1, 5, 0, 0), 'v');
        due("not checked", m.checks(), 0);
        due("all", m.run(1, 5, 0, 0), 'v');
        due("checked", m.checks(), 1);
    }

    /** Terms, Exceptions: "A method that throws an exception changes nothing": a row of refused calls between all others. */
    static void paragraphExceptionsChangeNothing() {
        RefinementMint m = rich();
        for (int i = 0; i < 40; i++) {
            fails("no function", INDEX, () -> m.setLazy(4, true));
            fails("no number", ARGUMENT, () -> m.number(100));
            fails("no part", INDEX, () -> m.plus(-1, 0));
            fails("a part already", UNSUPPORTED, () -> m.plus(partOfRich, 0));
            fails("no term", INDEX, () -> m.setBody(SUMS, 120));
            fails("no parameter", ARGUMENT, () -> m.metric(SUMS, 1, 0, -1, 0));
        }
        due("the next term", m.empty(), looseFour + 1);
        due("the next pattern", m.pattern(0, 1, 0), 3);
        due("the next function", m.addFunction(0, 0, false), 4);
        due("the conditions", m.conditions(SUMS), 4);
        due("the metric", m.isProved(SUMS, 1), true);
        due("the last run", m.result(), 6);
    }
}
