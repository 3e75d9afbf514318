import java.util.ArrayList;
import java.util.Collections;
import java.util.List;
import java.util.Random;

/**
 * Conditions behind many facts that two things are unlike: rows of choices by '=' that do not hold, as many as 120 terms
 * leave room for. First by hand, then random rows against a second solver. Arguments: the first seed and how many of
 * these (by default 1 and 6000).
 */
public final class UnlikeTest extends Bench {
    /** Rows that found changes made on purpose to the solver, which few others find. */
    private static final long[] TELLING = {29991, 2004871, 3008055, 4012301, 5022769, 6066424, 7034627, 7043180};
    private static long firstSeed = 1;
    private static long seeds = 6000;

    public static void main(String[] args) {
        firstSeed = args.length > 0 ? Long.parseLong(args[0]) : firstSeed;
        seeds = args.length > 1 ? Long.parseLong(args[1]) : seeds;
        runAll(UnlikeTest.class, 12);
    }

    /** Function 0 gives a number from 0 to another one; function 1 is asked about. */
    private static RefinementMint among(int most, int parameters) {
        RefinementMint m = new RefinementMint();
        m.addFunction(0, 0, false);
        m.gives(0, -1, 3, 0);
        m.gives(0, 3, -1, most);
        m.addFunction(parameters, 0, false);
        return m;
    }

    /** A claim that never holds, so that it is proved if the facts ahead of it do not hold together. */
    private static int wrongClaim(RefinementMint m) {
        return m.claim(m.number(0), m.number(0), -1, m.number(0));
    }

    /** Goes on with a term if two names are unlike. */
    private static int unlike(RefinementMint m, int name, int other, int term) {
        return m.choice('=', m.name(name), m.name(other), m.number(0), term);
    }

    /** Goes on with a term if each two of some names are unlike. */
    private static int allUnlike(RefinementMint m, int from, int to, int term) {
        int on = term;
        for (int i = from; i < to; i++) {
            for (int j = i + 1; j < to; j++) {
                on = unlike(m, i, j, on);
            }
        }
        return on;
    }

    /** Lets names be results of function 0 in a term. */
    private static int lets(RefinementMint m, int from, int to, int term) {
        int on = term;
        for (int i = to - 1; i >= from; i--) {
            on = m.let(i, m.call(0, -1, -1, -1), on);
        }
        return on;
    }

    /** The condition of function 1 that is the claim. */
    private static int claimOf(RefinementMint m) {
        int count = m.conditions(1);
        for (int i = 0; i < count; i++) {
            if (m.kindOf(1, i) == 'a') {
                return i;
            }
        }
        return -1;
    }

    private static void allNeeded(RefinementMint m, int index, int facts) {
        due("proved", m.isProved(1, index), true);
        due("facts", m.facts(1, index), facts);
        due("needed", m.needed(1, index), facts);
        for (int i = 0; i < facts; i++) {
            due("needed at " + i, m.neededAt(1, index, i), i);
        }
        due("sound", m.isSound(), true);
    }

    /** Promises 28, 30: so many numbers, each two unlike, have no room in one less; none of the facts can be left out. */
    static void promise28MoreNumbersThanThereAre() {
        for (int n = 2; n <= 7; n++) {
            RefinementMint m = among(n - 2, 0);
            m.setBody(1, lets(m, 3, 3 + n, allUnlike(m, 3, 3 + n, wrongClaim(m))));
            allNeeded(m, claimOf(m), 2 * n + n * (n - 1) / 2);
        }
    }

    /** Promise 28: the same numbers have room in one more. */
    static void promise28AsManyNumbersAsThereAre() {
        for (int n = 2; n <= 7; n++) {
            RefinementMint m = among(n - 1, 0);
            m.setBody(1, lets(m, 3, 3 + n, allUnlike(m, 3, 3 + n, wrongClaim(m))));
            int index = claimOf(m);
            due("not proved", m.isProved(1, index), false);
            fails("not needed", UNSUPPORTED, () -> m.needed(1, index));
            due("sound", m.isSound(), true);
        }
    }

    /**
     * Promise 28: names in a circle, each unlike the next two. Three numbers have room for these if three names after
     * each other repeat them all around, so if the circle is a multiple of three; four numbers always have.
     */
    static void promise28CirclesOfNames() {
        for (int n = 6; n <= 10; n++) {
            for (int most = 2; most <= 3; most++) {
                RefinementMint m = among(most, 3);
                for (int i = 0; i < 2; i++) {
                    m.needs(1, -1, i, 0);
                    m.needs(1, i, -1, most);
                }
                int term = wrongClaim(m);
                for (int i = 0; i < n; i++) {
                    term = unlike(m, i, (i + 1) % n, unlike(m, i, (i + 2) % n, term));
                }
                term = m.choice('<', m.name(2), m.number(0), m.number(0), term);
                term = m.choice('<', m.number(most), m.name(2), m.number(0), term);
                due("body", m.setBody(1, lets(m, 3, n, term)), '-');
                int index = claimOf(m);
                boolean isProved = most == 2 && n % 3 != 0;
                due(n + " in " + most, m.isProved(1, index), isProved);
                if (!isProved) {
                    due("first", m.example(1, index, 0), 0);
                    due("second", m.example(1, index, 1), 1);
                    due("third", m.example(1, index, 2), 2);
                }
                due("sound", m.isSound(), true);
            }
        }
    }

    /** Promises 28, 31: other facts that things are unlike change nothing, wherever they stand among these. */
    static void promise31OthersBetween() {
        for (int seed = 0; seed < 60; seed++) {
            List<int[]> pairs = new ArrayList<>();
            for (int i = 3; i < 7; i++) {
                for (int j = i + 1; j < 7; j++) {
                    pairs.add(new int[] {i, j});
                }
            }
            int others = 21;
            for (int i = 0; i < others; i++) {
                pairs.add(new int[] {i % 2, -1 - i});
            }
            Collections.shuffle(pairs, new Random(seed));
            RefinementMint m = among(2, 2);
            for (int i = 0; i < 2; i++) {
                m.needs(1, -1, i, 0);
                m.needs(1, i, -1, 50);
            }
            int term = m.claim(m.name(0), m.name(0), -1, m.name(0));
            for (int i = pairs.size() - 1; i >= 0; i--) {
                int[] pair = pairs.get(i);
                int second = pair[1] < 0 ? m.number(-1 - pair[1]) : m.name(pair[1]);
                term = m.choice('=', m.name(pair[0]), second, m.name(0), term);
            }
            int body = lets(m, 3, 7, term);
            due("the last term", body, 119);
            due("body", m.setBody(1, body), '-');
            int index = claimOf(m);
            due("proved", m.isProved(1, index), true);
            due("needed", m.needed(1, index), 14);
            int place = 0;
            for (int i = 4; i < 12; i++) {
                due("a range is needed", m.neededAt(1, index, place), i);
                place++;
            }
            for (int i = 0; i < pairs.size(); i++) {
                if (pairs.get(i)[1] >= 0) {
                    due("a pair is needed", m.neededAt(1, index, place), 12 + i);
                    place++;
                }
            }
        }
    }

    /** Promise 28: up or down by one, an odd number of times, never comes back; an even number of times it can. */
    static void promise28UpAndDown() {
        for (int n = 1; n <= 15; n++) {
            RefinementMint m = new RefinementMint();
            m.addFunction(1, 0, false);
            m.gives(0, 0, 3, 1);
            m.gives(0, 3, 0, 1);
            m.addFunction(1, 0, false);
            int term = m.choice('=', m.name(3 + n % 2), m.name(0), wrongClaim(m), m.number(0));
            for (int i = n; i > 0; i--) {
                int last = i == 1 ? 0 : 3 + (i - 1) % 2;
                int on = unlike(m, 3 + i % 2, last, term);
                term = m.let(3 + i % 2, m.call(0, m.name(last), -1, -1), on);
            }
            due("body", m.setBody(1, term), '-');
            int index = claimOf(m);
            if (n == 1) {
                due("that it is one more or less is not needed", m.needed(1, index), 3);
            } else if (n % 2 == 1) {
                allNeeded(m, index, 3 * n + 2);
            } else {
                due("not proved", m.isProved(1, index), false);
                due("any number", m.example(1, index, 0), 0);
                due("sound", m.isSound(), true);
            }
        }
    }

    /** Promise 28: 120 terms have room for 29 choices on a way; each of them can be needed. */
    static void promise28TwentyNineChoices() {
        for (int most = 28; most <= 30; most++) {
            RefinementMint m = among(0, 1);
            m.needs(1, -1, 0, 0);
            m.needs(1, 0, -1, most);
            m.gives(1, 3, -1, 0);
            int term = m.number(1);
            for (int i = 0; i < 29; i++) {
                term = m.choice('=', m.name(0), m.number(i * 12 % 29), m.number(0), term);
            }
            due("body", m.setBody(1, term), '-');
            due("ways", m.ways(1), 30);
            if (most == 28) {
                allNeeded(m, 29, 31);
            } else {
                due("not proved", m.isProved(1, 29), false);
                due("the only numbers are behind the last one", m.example(1, 29, 0), 29);
                due("real", m.isReal(1, 29), true);
                due("sound", m.isSound(), true);
            }
        }
    }

    /** Promise 32: a parameter that is unlike numbers that fill a range is outside of it, as near to 0 as can be. */
    static void promise32OutsideOfAFullRange() {
        for (int n = 2; n <= 5; n++) {
            for (int told = 0; told < 3; told++) {
                RefinementMint m = among(n - 1, 1);
                if (told > 0) {
                    m.needs(1, -1, 0, 0);
                }
                if (told > 1) {
                    m.needs(1, 0, -1, n - 1);
                }
                int term = wrongClaim(m);
                for (int i = 0; i < n; i++) {
                    term = unlike(m, 0, 3 + i, term);
                }
                due("body", m.setBody(1, lets(m, 3, 3 + n, allUnlike(m, 3, 3 + n, term))), '-');
                int index = claimOf(m);
                due("proved", m.isProved(1, index), told == 2);
                if (told < 2) {
                    due("example", m.example(1, index, 0), told == 0 ? -1 : n);
                }
            }
        }
    }

    /** Promise 32: "the number nearest to 0, of two the one greater than 0", and "from -600 to 600", behind these facts. */
    static void promise32NearestToNothing() {
        for (int far = 599; far <= 601; far++) {
            for (int sign = -1; sign <= 1; sign += 2) {
                RefinementMint m = among(1, 1);
                // not less than a number, not greater than that and one, and unlike it
                int term = m.choice('=', m.name(0), m.name(5), m.number(0), wrongClaim(m));
                term = m.choice('<', m.name(0), m.name(5), m.number(0), term);
                term = m.choice('<', m.plus(m.name(5), 1), m.name(0), m.number(0), term);
                term = m.let(5, great(m, sign > 0 ? far - 1 : -far - 1), term);
                due("body", m.setBody(1, term), '-');
                int index = claimOf(m);
                due("not proved", m.isProved(1, index), false);
                if (far > 600) {
                    fails("too far", NONE, () -> m.example(1, index, 0));
                    fails("not real either", NONE, () -> m.isReal(1, index));
                } else {
                    due("example", m.example(1, index, 0), sign * far);
                }
            }
        }
        for (int hole = 1; hole <= 6; hole++) {
            RefinementMint m = among(1, 1);
            int term = wrongClaim(m);
            for (int i = 0; i < hole; i++) {
                term = m.choice('=', m.name(0), m.number(i % 2 == 0 ? -i / 2 : i / 2 + 1), m.number(0), term);
            }
            due("body", m.setBody(1, term), '-');
            // 0, 1, -1, 2, -2 and 3 are left out in this order
            due("next", m.example(1, claimOf(m), 0), of(1, -1, 2, -2, 3, -3)[hole - 1]);
        }
    }

    /** "Finding": what is found holds because one way can not be, for its facts that things are unlike. */
    static void promise37FoundBehindUnlikes() {
        for (int most = 0; most <= 4; most++) {
            RefinementMint m = among(most, 1);
            m.findGives(1);
            m.pattern(2, 0, 0);
            int body = lets(m, 3, 7, allUnlike(m, 3, 7, m.number(1)));
            due("body", m.setBody(1, body), '-');
            due("found", m.doesGive(1, 3, -1, 0), most < 3);
            due("found", m.allGives(1), most < 3 ? 1 : 0);
        }
    }

    /** Promise 28: the metric of a call that can not be reached, for the facts ahead of it, gets less. */
    static void promise28MetricBehindUnlikes() {
        for (int places = 1; places <= 2; places++) {
            for (int most = 2; most <= 3; most++) {
                RefinementMint m = among(most, 2);
                m.metric(1, 0, 0, places == 1 ? -1 : 1, 0);
                int again = m.call(1, m.name(0), m.name(1), -1);
                due("body", m.setBody(1, lets(m, 3, 7, allUnlike(m, 3, 7, again))), '-');
                due("conditions", m.conditions(1), 1);
                due("kind", m.kindOf(1, 0), 'm');
                due("proved", m.isProved(1, 0), most == 2);
                due("sound", m.isSound(), true);
                if (most == 2) {
                    due("needed", m.needed(1, 0), 14);
                } else {
                    due("first", m.example(1, 0, 0), 0);
                    due("second", m.example(1, 0, 1), 0);
                }
            }
        }
    }

    /** Promise 40: a check that is proved by facts that things are unlike is left out. */
    static void promise40CheckBehindUnlikes() {
        RefinementMint m = among(0, 3);
        for (int i = 0; i < 2; i++) {
            m.needs(1, -1, i, 0);
            m.needs(1, i, -1, 1);
        }
        // of 0 and 1, two numbers that are unlike a third one are the same
        int claim = m.claim(m.name(2), m.name(1), 0, m.number(7));
        int term = unlike(m, 0, 1, unlike(m, 0, 2, claim));
        term = m.choice('<', m.name(2), m.number(0), m.number(2), m.choice('<', m.number(1), m.name(2), m.number(3), term));
        due("body", m.setBody(1, term), '-');
        int index = claimOf(m);
        due("proved", m.isProved(1, index), true);
        due("facts", m.facts(1, index), 8);
        due("needed", m.needed(1, index), 6);
        int[] places = of(0, 1, 2, 5, 6, 7);
        for (int i = 0; i < places.length; i++) {
            due("needed at " + i, m.neededAt(1, index, i), places[i]);
        }
        due("ends", m.run(1, 0, 1, 1), 'v');
        due("checks", m.checks(), 5);
        due("value", m.result(), 7);
        due("ends", m.runFew(1, 0, 1, 1), 'v');
        due("checks", m.checks(), 4);
        due("value", m.result(), 7);
    }

    /** Promises 28, 31, 32: random rows, against a solver that parts where numbers that it found do not differ. */
    static void promise28SecondSolver() {
        for (long seed = firstSeed; seed < firstSeed + seeds; seed++) {
            new Row(seed).compare();
        }
        for (long seed : TELLING) {
            new Row(seed).compare();
        }
    }

    /** A body of function 5: lets, comparisons, and a claim at their end; the functions 0 to 4 give ranges. */
    private static final class Row {
        final Random random;
        final long seed;
        final int[] parameters = new int[5];
        final int[] low = new int[5];
        final int[] high = new int[5];
        final int[] top = new int[2];
        /** The function, and its parameter, of each let. */
        final List<int[]> lets = new ArrayList<>();
        /** A name, another name or -1, a number, and what is told: '=', '<' or '/' for unlike. */
        final List<int[]> told = new ArrayList<>();
        /** Things as in the document; 0 is nothing, then come the names. */
        final List<int[]> facts = new ArrayList<>();
        final RefinementMint m = new RefinementMint();

        Row(long seed) {
            this.seed = seed;
            random = new Random(seed * 1009 + 5);
        }

        int any(int bound) {
            return random.nextInt(bound);
        }

        void compare() {
            choose();
            int[] claim = {any(3 + lets.size()), any(3 + lets.size()), any(7) - 3};
            if (any(2) == 0) {
                claim = new int[] {0, 0, -1};
            }
            build(claim);
            int[] against = {claim[1] + 1, claim[0] + 1, -claim[2] - 1, 0};
            int index = 0;
            while (index < m.conditions(5) && m.kindOf(5, index) != 'a') {
                index++;
            }
            List<int[]> all = new ArrayList<>(facts);
            all.add(against);
            boolean isProved = !isOpen(all);
            due(seed + " proved", m.isProved(5, index), isProved);
            due(seed + " facts", m.facts(5, index), facts.size());
            if (isProved) {
                compareNeeded(index, against);
            } else {
                compareExample(index, all);
            }
            due(seed + " sound", m.isSound(), true);
        }

        void choose() {
            for (int i = 0; i < 5; i++) {
                parameters[i] = i < 3 ? 0 : 1;
                low[i] = i < 3 ? 0 : -1;
                high[i] = low[i] + 1 + any(3);
            }
            top[0] = any(5);
            top[1] = any(5);
            int kind = any(9);
            if (kind == 0) {
                chooseAny();
            } else if (kind == 1) {
                chooseAllUnlike();
            } else if (kind == 2) {
                chooseSteps();
            } else if (kind == 3) {
                chooseBetween();
            } else if (kind > 5) {
                chooseAround();
            } else {
                chooseNarrow();
            }
            for (int i = kind > 5 ? any(2) : any(6); i > 0; i--) {
                if (any(2) == 0 && !told.isEmpty()) {
                    told.remove(any(told.size()));
                }
                tell(any(3 + lets.size()), any(3 + lets.size()), any(3) - 1, "///<=".charAt(any(5)));
            }
            Collections.shuffle(told, random);
        }

        void chooseAny() {
            for (int i = 1 + any(7); i > 0; i--) {
                lets.add(new int[] {any(5), any(3 + lets.size())});
            }
            for (int i = any(26); i > 0; i--) {
                boolean isNumber = any(8) == 0;
                tell(any(3 + lets.size()), isNumber ? -1 : any(3 + lets.size()), any(4) == 0 ? any(5) - 2 : 0, '/');
            }
        }

        void chooseAllUnlike() {
            int count = 2 + any(5);
            high[0] = count - (any(3) == 0 ? 1 : 2);
            top[0] = high[0];
            for (int i = 1; i < count; i++) {
                lets.add(new int[] {0, 0});
            }
            for (int i = 0; i < count; i++) {
                for (int j = i + 1; j < count; j++) {
                    tell(i == 0 ? 0 : 2 + i, 2 + j, 0, '/');
                }
            }
        }

        void chooseSteps() {
            high[3] = 1;
            int count = 1 + any(7);
            for (int i = 0; i < count; i++) {
                lets.add(new int[] {3, i == 0 ? 0 : 2 + i});
                tell(3 + i, i == 0 ? 0 : 2 + i, 0, '/');
            }
            tell(2 + count, 0, any(3) - 1, '=');
        }

        /** As many are unlike as there is just room for, or just not. */
        void chooseNarrow() {
            int most = 1 + any(3);
            for (int i = 0; i < 3; i++) {
                high[i] = Math.max(1, most - (any(3) == 0 ? 1 : 0));
            }
            top[0] = most;
            top[1] = most;
            int count = 3 + any(5);
            for (int i = 0; i < count; i++) {
                lets.add(new int[] {any(3), 0});
            }
            int names = count + 2;
            int pairs = most == 1 ? names - any(3) : most == 2 ? 2 * names + any(5) : 3 * names - any(4);
            boolean isStraight = any(2) == 0;
            for (int i = 0; i < pairs; i++) {
                int name = any(names);
                int other = any(names);
                tell(name < 2 ? name : name + 1, other < 2 ? other : other + 1, isStraight ? 0 : any(3) - 1, '/');
            }
        }

        /** Hidden numbers, and as much as there is room for that tells others from them. */
        void chooseAround() {
            int most = 1 + any(3);
            for (int i = 0; i < 5; i++) {
                high[i] = i < 3 ? most : 1 + any(2);
            }
            top[0] = most;
            top[1] = most;
            int count = 3 + any(5);
            int[] hidden = new int[3 + count];
            for (int i = 0; i < 3 + count; i++) {
                hidden[i] = any(most + 1);
                if (i > 2) {
                    int function = any(5);
                    int of = any(i);
                    int less = hidden[i] - hidden[of];
                    boolean isFar = parameters[function] == 1 && (less < low[function] || less > high[function]);
                    lets.add(new int[] {isFar ? 0 : function, of});
                }
            }
            for (int i = 0; i < 60; i++) {
                int name = any(3 + count);
                int other = any(3 + count);
                int number = any(3) == 0 ? any(3) - 1 : 0;
                if (name != 2 && other != 2 && hidden[name] - hidden[other] != number) {
                    tell(name, other, number, '/');
                }
            }
        }

        /** Names that stand between others. */
        void chooseBetween() {
            int count = 2 + any(5);
            for (int i = 0; i < count; i++) {
                lets.add(new int[] {any(5), any(3 + i)});
            }
            for (int i = 2 + any(9); i > 0; i--) {
                tell(any(3 + count), any(3 + count), 1 + any(3), '<');
            }
            for (int i = 2 + any(14); i > 0; i--) {
                tell(any(3 + count), any(3 + count), any(3) - 1, '/');
            }
        }

        /** Keeps within 120 terms. */
        void tell(int name, int other, int number, char what) {
            int terms = 4;
            for (int[] let : lets) {
                terms += 2 + parameters[let[0]];
            }
            for (int[] one : told) {
                terms += one[1] < 0 || one[2] == 0 ? 4 : 5;
            }
            if (terms + (other < 0 || number == 0 ? 4 : 5) <= 120 && name != other) {
                told.add(new int[] {name, other, number, what});
            }
        }

        void build(int[] claim) {
            for (int i = 0; i < 5; i++) {
                int thing = parameters[i] - 1;
                m.addFunction(parameters[i], 0, false);
                m.gives(i, 3, thing, high[i]);
                m.gives(i, thing, 3, -low[i]);
            }
            m.addFunction(3, 0, false);
            for (int i = 0; i < 2; i++) {
                m.needs(5, i, -1, top[i]);
                m.needs(5, -1, i, 0);
            }
            int term = m.claim(m.name(claim[0]), m.name(claim[1]), claim[2], m.number(0));
            for (int i = told.size() - 1; i >= 0; i--) {
                term = compare(told.get(i), term);
            }
            for (int i = lets.size() - 1; i >= 0; i--) {
                int[] let = lets.get(i);
                int call = m.call(let[0], parameters[let[0]] == 0 ? -1 : m.name(let[1]), -1, -1);
                term = m.let(3 + i, call, term);
            }
            due(seed + " body", m.setBody(5, term), '-');
            gatherFacts();
        }

        int compare(int[] told, int term) {
            int first = m.name(told[0]);
            int second = told[1] < 0 ? m.number(told[2]) : told[2] == 0 ? m.name(told[1]) : m.plus(m.name(told[1]), told[2]);
            int leaf = m.number(0);
            boolean isSecond = told[3] == '/';
            return m.choice(isSecond ? '=' : (char) told[3], first, second, isSecond ? leaf : term, isSecond ? term : leaf);
        }

        void gatherFacts() {
            facts.add(new int[] {0, 1, 0, 0});
            facts.add(new int[] {0, 2, 0, 0});
            facts.add(new int[] {1, 0, top[0], 0});
            facts.add(new int[] {2, 0, top[1], 0});
            for (int i = 0; i < lets.size(); i++) {
                int function = lets.get(i)[0];
                int of = parameters[function] == 0 ? 0 : lets.get(i)[1] + 1;
                facts.add(new int[] {of, 4 + i, -low[function], 0});
                facts.add(new int[] {4 + i, of, high[function], 0});
            }
            for (int[] one : told) {
                int first = one[0] + 1;
                int second = one[1] < 0 ? 0 : one[1] + 1;
                facts.add(new int[] {first, second, one[3] == '<' ? one[2] - 1 : one[2], one[3] == '/' ? 1 : 0});
                if (one[3] == '=') {
                    facts.add(new int[] {second, first, -one[2], 0});
                }
            }
        }

        void compareNeeded(int index, int[] against) {
            List<Integer> left = new ArrayList<>();
            for (int i = 0; i < facts.size(); i++) {
                left.add(i);
            }
            for (int i = 0; i < facts.size(); i++) {
                List<int[]> fewer = new ArrayList<>();
                fewer.add(against);
                for (int other : left) {
                    if (other != i) {
                        fewer.add(facts.get(other));
                    }
                }
                if (!isOpen(fewer)) {
                    left.remove((Integer) i);
                }
            }
            due(seed + " needed", told(() -> m.needed(5, index)).equals(" " + left.size()), true);
            for (int i = 0; i < left.size(); i++) {
                int place = i;
                due(seed + " needed at " + i, told(() -> m.neededAt(5, index, place)).equals(" " + left.get(place)), true);
            }
        }

        void compareExample(int index, List<int[]> all) {
            List<int[]> so = new ArrayList<>(all);
            for (int parameter = 1; parameter <= 3; parameter++) {
                int number = 0;
                boolean isMet = false;
                for (int i = 0; i <= 1200 && !isMet; i++) {
                    number = i % 2 == 0 ? -i / 2 : i / 2 + 1;
                    List<int[]> more = new ArrayList<>(so);
                    more.add(new int[] {parameter, 0, number, 0});
                    more.add(new int[] {0, parameter, -number, 0});
                    if (isOpen(more)) {
                        isMet = true;
                        so = more;
                    }
                }
                int of = parameter - 1;
                due(seed + " example is " + number, told(() -> m.example(5, index, of)).equals(" " + number), true);
            }
        }

        boolean isOpen(List<int[]> facts) {
            return isOpenFrom(new ArrayList<>(facts));
        }

        /** Finds numbers for all bounds; where these do not differ as they have to, they are less, or more. */
        boolean isOpenFrom(List<int[]> facts) {
            int[] number = new int[4 + lets.size()];
            boolean isChanged = true;
            for (int round = 0; isChanged; round++) {
                if (round > number.length) {
                    return false;
                }
                isChanged = false;
                for (int[] fact : facts) {
                    if (fact[3] == 0 && number[fact[1]] + fact[2] < number[fact[0]]) {
                        number[fact[0]] = number[fact[1]] + fact[2];
                        isChanged = true;
                    }
                }
            }
            for (int i = 0; i < facts.size(); i++) {
                int[] fact = facts.get(i);
                if (fact[3] == 1 && number[fact[0]] - number[fact[1]] == fact[2]) {
                    facts.set(i, new int[] {fact[0], fact[1], fact[2] - 1, 0});
                    boolean isMet = isOpenFrom(facts);
                    facts.set(i, new int[] {fact[1], fact[0], -fact[2] - 1, 0});
                    isMet = isMet || isOpenFrom(facts);
                    facts.set(i, fact);
                    return isMet;
                }
            }
            return true;
        }
    }
}
