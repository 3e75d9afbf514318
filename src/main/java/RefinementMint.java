import java.util.Arrays;
import java.util.NoSuchElementException;

/** A language whose functions carry conditions, and a solver that proves them or finds numbers against them. */
public final class RefinementMint {
    private static final int MOST_TERMS = 120;
    private static final int MOST_PARTS = 4;
    private static final int MOST_FUNCTIONS = 6;
    private static final int MOST_PARAMETERS = 3;
    private static final int MOST_PATTERNS = 8;
    private static final int MOST_TOLD = 4;
    private static final int MOST_WAYS = 40;
    private static final int MOST_SMALL = 99;
    private static final int NAMES = 10;
    private static final int NOTHING = -1;
    private static final int RESULT = 3;
    /** Stands above the turns of every loop whose bound the document does not tell. */
    private static final int MANY = 1000000;

    private final Terms terms;
    private final Function[] functions;
    private final int[] asked;
    private final Checker checker;
    private final Walker walker;
    private final Prover prover;
    private final Runner runner;
    private final Analysis analysis;
    private int functionCount;
    private char lastEnd;
    private int lastValue;
    private int lastChecks;
    private int lastSteps;

    public RefinementMint() {
        terms = new Terms();
        functions = new Function[MOST_FUNCTIONS];
        asked = new int[MOST_PARTS];
        Facts facts = new Facts();
        checker = new Checker(terms, functions);
        prover = new Prover(facts);
        walker = new Walker(terms, functions, facts, prover);
        runner = new Runner(terms, functions);
        analysis = new Analysis(terms, functions, walker, prover, runner);
        lastEnd = '-';
    }

    public int addFunction(int parameters, int lists, boolean isList) throws IllegalArgumentException, IllegalStateException {
        if (parameters < 0 || parameters > MOST_PARAMETERS || lists < 0 || lists >= 1 << parameters) {
            throw new IllegalArgumentException();
        }
        if (functionCount < 0 || functionCount >= MOST_FUNCTIONS) {
            throw new IllegalStateException();
        }
        functions[functionCount] = new Function(parameters, lists, isList);
        functionCount++;
        return functionCount - 1;
    }

    public int needs(int function, int first, int second, int most) throws IndexOutOfBoundsException, IllegalArgumentException, IllegalStateException {
        Function asker = existing(function);
        if (!asker.hasParameter(first) && first != NOTHING || !asker.hasParameter(second) && second != NOTHING
                || first == second || !isSmall(most)) {
            throw new IllegalArgumentException();
        }
        return tell(asker.wants, Atoms.codeOf(first, second, most));
    }

    public int gives(int function, int first, int second, int most) throws IndexOutOfBoundsException, IllegalArgumentException, IllegalStateException {
        Function giver = existing(function);
        if (!giver.hasThing(first) || !giver.hasThing(second) || first == second || !isSmall(most)) {
            throw new IllegalArgumentException();
        }
        return tell(giver.yields, Atoms.codeOf(first, second, most));
    }

    public int findNeeds(int function) throws IndexOutOfBoundsException {
        Function asker = existing(function);
        return leaveToFind(asker.wants);
    }

    public int findGives(int function) throws IndexOutOfBoundsException {
        Function giver = existing(function);
        return leaveToFind(giver.yields);
    }

    public int pattern(int first, int second, int most) throws IllegalArgumentException, IllegalStateException {
        if (first < 0 || first > 2 || second < 0 || second > 2 || first == second && first != 1 || !isSmall(most)) {
            throw new IllegalArgumentException();
        }
        if (analysis.patternCount >= MOST_PATTERNS) {
            throw new IllegalStateException();
        }
        analysis.addPattern(first, second, most);
        return analysis.patternCount;
    }

    public int metric(int function, int first, int firstPlus, int second, int secondPlus) throws IndexOutOfBoundsException, IllegalArgumentException {
        Function measured = existing(function);
        if (!measured.hasParameter(first) || !isSmall(firstPlus)
                || second != -1 && (!measured.hasParameter(second) || !isSmall(secondPlus))) {
            throw new IllegalArgumentException();
        }
        measured.place[0] = first;
        measured.placePlus[0] = firstPlus;
        measured.place[1] = second;
        measured.placePlus[1] = secondPlus;
        measured.places = second == -1 ? 1 : 2;
        analysis.forget();
        return measured.places;
    }

    public boolean setLazy(int function, boolean isLazy) throws IndexOutOfBoundsException {
        Function changed = existing(function);
        boolean wasLazy = changed.isLazy;
        changed.isLazy = isLazy;
        analysis.forget();
        return wasLazy;
    }

    public char setBody(int function, int body) throws IndexOutOfBoundsException, UnsupportedOperationException {
        Function owner = existing(function);
        if (!terms.has(body)) {
            throw new IndexOutOfBoundsException();
        }
        if (terms.isTakenAt(body)) {
            throw new UnsupportedOperationException();
        }
        terms.take(owner.body, false);
        terms.take(body, true);
        owner.body = body;
        checker.check(owner);
        analysis.forget();
        analysis.linkCalls();
        return owner.fault;
    }

    public int number(int value) throws IllegalArgumentException, IllegalStateException {
        if (!isSmall(value)) {
            throw new IllegalArgumentException();
        }
        return make(Terms.NUMBER, value, 0, 0);
    }

    public int name(int name) throws IllegalArgumentException, IllegalStateException {
        if (!isName(name)) {
            throw new IllegalArgumentException();
        }
        return make(Terms.NAME, name, 0, 0);
    }

    public int plus(int term, int more) throws IllegalArgumentException, IndexOutOfBoundsException, UnsupportedOperationException, IllegalStateException {
        if (!isSmall(more)) {
            throw new IllegalArgumentException();
        }
        asked[0] = term;
        return make(Terms.PLUS, more, 0, 1);
    }

    public int sum(int first, int second) throws IndexOutOfBoundsException, UnsupportedOperationException, IllegalStateException {
        asked[0] = first;
        asked[1] = second;
        return make(Terms.SUM, 0, 0, 2);
    }

    public int let(int name, int bound, int body) throws IllegalArgumentException, IndexOutOfBoundsException, UnsupportedOperationException, IllegalStateException {
        if (!isName(name)) {
            throw new IllegalArgumentException();
        }
        asked[0] = bound;
        asked[1] = body;
        return make(Terms.LET, name, 0, 2);
    }

    public int choice(char comparison, int first, int second, int yes, int no) throws IllegalArgumentException, IndexOutOfBoundsException, UnsupportedOperationException, IllegalStateException {
        if (comparison != '<' && comparison != '=') {
            throw new IllegalArgumentException();
        }
        asked[0] = first;
        asked[1] = second;
        asked[2] = yes;
        asked[3] = no;
        return make(Terms.CHOICE, comparison, 0, 4);
    }

    public int call(int function, int first, int second, int third) throws NoSuchElementException, IndexOutOfBoundsException, UnsupportedOperationException, IllegalStateException {
        if (functionAt(function) == null) {
            throw new NoSuchElementException();
        }
        if (first == -1 && (second != -1 || third != -1) || second == -1 && third != -1) {
            throw new IndexOutOfBoundsException();
        }
        asked[0] = first;
        asked[1] = second;
        asked[2] = third;
        return make(Terms.CALL, function, 0, first == -1 ? 0 : second == -1 ? 1 : third == -1 ? 2 : 3);
    }

    public int empty() throws IllegalStateException {
        return make(Terms.EMPTY, 0, 0, 0);
    }

    public int ahead(int first, int rest) throws IndexOutOfBoundsException, UnsupportedOperationException, IllegalStateException {
        asked[0] = first;
        asked[1] = rest;
        return make(Terms.AHEAD, 0, 0, 2);
    }

    public int match(int list, int none, int first, int rest, int some) throws IllegalArgumentException, IndexOutOfBoundsException, UnsupportedOperationException, IllegalStateException {
        if (!isName(first) || !isName(rest) || first == rest) {
            throw new IllegalArgumentException();
        }
        asked[0] = list;
        asked[1] = none;
        asked[2] = some;
        return make(Terms.MATCH, first, rest, 3);
    }

    public int claim(int first, int second, int most, int term) throws IllegalArgumentException, IndexOutOfBoundsException, UnsupportedOperationException, IllegalStateException {
        if (!isSmall(most)) {
            throw new IllegalArgumentException();
        }
        asked[0] = first;
        asked[1] = second;
        asked[2] = term;
        return make(Terms.CLAIM, most, 0, 3);
    }

    public char error(int function) throws IndexOutOfBoundsException {
        Function owner = existing(function);
        return owner.fault;
    }

    public int errorAt(int function) throws IndexOutOfBoundsException, NoSuchElementException {
        Function owner = existing(function);
        if (owner.fault == '-' || owner.fault == 'b') {
            throw new NoSuchElementException();
        }
        return owner.faultAt;
    }

    public int ways(int function) throws IndexOutOfBoundsException, IllegalStateException {
        return faultless(function).wayCount;
    }

    public int conditions(int function) throws IndexOutOfBoundsException, IllegalStateException {
        Function owner = faultless(function);
        analysis.refresh();
        return owner.conditionCount;
    }

    public char kindOf(int function, int index) throws IndexOutOfBoundsException, IllegalStateException, NoSuchElementException {
        analysis.refresh();
        return Analysis.kindIn(storedCondition(function, index));
    }

    public int termOf(int function, int index) throws IndexOutOfBoundsException, IllegalStateException, NoSuchElementException {
        analysis.refresh();
        return Analysis.termIn(storedCondition(function, index));
    }

    public boolean isProved(int function, int index) throws IndexOutOfBoundsException, IllegalStateException, NoSuchElementException {
        analysis.refresh();
        return Analysis.isProvedIn(storedCondition(function, index));
    }

    public int facts(int function, int index) throws IndexOutOfBoundsException, IllegalStateException, NoSuchElementException {
        analysis.refresh();
        return Analysis.factsIn(storedCondition(function, index));
    }

    public int needed(int function, int index) throws IndexOutOfBoundsException, IllegalStateException, NoSuchElementException, UnsupportedOperationException {
        analysis.refresh();
        if (!Analysis.isProvedIn(storedCondition(function, index))) {
            throw new UnsupportedOperationException();
        }
        analysis.walkTo(function, index);
        prover.findNeeded();
        return prover.neededCount;
    }

    public int neededAt(int function, int index, int place) throws IndexOutOfBoundsException, IllegalStateException, NoSuchElementException, UnsupportedOperationException {
        analysis.refresh();
        if (!Analysis.isProvedIn(storedCondition(function, index))) {
            throw new UnsupportedOperationException();
        }
        analysis.walkTo(function, index);
        prover.findNeeded();
        if (place < 0 || place >= prover.neededCount || place >= prover.needed.length) {
            throw new NoSuchElementException();
        }
        return prover.needed[place];
    }

    public int example(int function, int index, int parameter) throws IndexOutOfBoundsException, IllegalStateException, NoSuchElementException {
        analysis.refresh();
        boolean isProved = Analysis.isProvedIn(storedCondition(function, index));
        Function owner = existing(function);
        if (isProved || !owner.hasParameter(parameter)) {
            throw new NoSuchElementException();
        }
        analysis.walkTo(function, index);
        if (!prover.findExample(owner.parameters)) {
            throw new NoSuchElementException();
        }
        return prover.chosenAt(parameter);
    }

    public boolean isReal(int function, int index) throws IndexOutOfBoundsException, IllegalStateException, NoSuchElementException {
        analysis.refresh();
        int stored = storedCondition(function, index);
        Function owner = existing(function);
        if (Analysis.isProvedIn(stored)) {
            throw new NoSuchElementException();
        }
        analysis.walkTo(function, index);
        if (!prover.findExample(owner.parameters)) {
            throw new NoSuchElementException();
        }
        return analysis.isRunnable(owner) && runner.execute(owner, prover.chosen, false) == Analysis.kindIn(stored);
    }

    public int allNeeds(int function) throws IndexOutOfBoundsException {
        Function asker = existing(function);
        analysis.refresh();
        return asker.wants.size;
    }

    public boolean doesNeed(int function, int first, int second, int most) throws IndexOutOfBoundsException {
        Function asker = existing(function);
        analysis.refresh();
        return isAtom(first, second, most) && asker.wants.has(Atoms.codeOf(first, second, most));
    }

    public int allGives(int function) throws IndexOutOfBoundsException {
        Function giver = existing(function);
        analysis.refresh();
        return giver.yields.size;
    }

    public boolean doesGive(int function, int first, int second, int most) throws IndexOutOfBoundsException {
        Function giver = existing(function);
        analysis.refresh();
        return isAtom(first, second, most) && giver.yields.has(Atoms.codeOf(first, second, most));
    }

    public boolean isInRing(int function) throws IndexOutOfBoundsException {
        Function owner = existing(function);
        return owner.comesTo(function);
    }

    public char run(int function, int first, int second, int third) throws IndexOutOfBoundsException, IllegalArgumentException, IllegalStateException {
        analysis.refresh();
        return runAsked(function, first, second, third, false);
    }

    public char runFew(int function, int first, int second, int third) throws IndexOutOfBoundsException, IllegalArgumentException, IllegalStateException {
        analysis.refresh();
        return runAsked(function, first, second, third, true);
    }

    public int result() throws NoSuchElementException {
        if (lastEnd != 'v') {
            throw new NoSuchElementException();
        }
        return lastValue;
    }

    public int checks() {
        return lastChecks;
    }

    public int steps() {
        return lastSteps;
    }

    public long allConditions() {
        analysis.refresh();
        return analysis.storedCount;
    }

    public float provedShare() throws ArithmeticException {
        analysis.refresh();
        if (analysis.storedCount == 0) {
            throw new ArithmeticException();
        }
        return (float) analysis.provedCount / (float) analysis.storedCount;
    }

    public double meanNeeded() throws ArithmeticException {
        analysis.refresh();
        if (analysis.provedCount == 0) {
            throw new ArithmeticException();
        }
        analysis.deepen();
        return (double) analysis.neededSum / (double) analysis.provedCount;
    }

    public boolean isSound() {
        analysis.refresh();
        analysis.deepen();
        return analysis.isAllSound;
    }

    private static boolean isSmall(int value) {
        return value >= -MOST_SMALL && value <= MOST_SMALL;
    }

    private static boolean isName(int name) {
        return name >= 0 && name < NAMES;
    }

    private static boolean isAtom(int first, int second, int most) {
        return first >= NOTHING && first <= RESULT && second >= NOTHING && second <= RESULT && isSmall(most);
    }

    private Function functionAt(int function) {
        return function >= 0 && function < functionCount && function < functions.length ? functions[function] : null;
    }

    private Function existing(int function) {
        Function asked = functionAt(function);
        if (asked == null) {
            throw new IndexOutOfBoundsException();
        }
        return asked;
    }

    private int tell(Atoms atoms, int code) {
        if (!atoms.isFound && !atoms.has(code) && atoms.size >= MOST_TOLD) {
            throw new IllegalStateException();
        }
        if (atoms.isFound) {
            atoms.isFound = false;
            atoms.size = 0;
        }
        atoms.insert(code);
        analysis.forget();
        return atoms.size;
    }

    private int leaveToFind(Atoms atoms) {
        int told = atoms.isFound ? 0 : atoms.size;
        atoms.isFound = true;
        atoms.size = 0;
        analysis.forget();
        return told;
    }

    /** Makes a term of the parts that stand in asked. */
    private int make(int kind, int detail, int detailToo, int count) {
        for (int i = 0; i < count && i < MOST_PARTS; i++) {
            if (!terms.has(asked[i])) {
                throw new IndexOutOfBoundsException();
            }
        }
        for (int i = 0; i < count && i < MOST_PARTS; i++) {
            boolean isTaken = terms.isTakenAt(asked[i]);
            for (int j = 0; j < i; j++) {
                isTaken = isTaken || asked[i] == asked[j];
            }
            if (isTaken) {
                throw new UnsupportedOperationException();
            }
        }
        if (terms.size >= MOST_TERMS) {
            throw new IllegalStateException();
        }
        return terms.add(kind, detail, detailToo, asked, count);
    }

    private Function faultless(int function) {
        Function owner = existing(function);
        if (owner.fault != '-') {
            throw new IllegalStateException();
        }
        return owner;
    }

    /** What is stored of a condition behind refresh, as Analysis packs it. */
    private int storedCondition(int function, int index) {
        Function owner = faultless(function);
        int place = owner.firstCondition + index;
        if (index < 0 || index >= owner.conditionCount || place < 0 || place >= analysis.stored.length) {
            throw new NoSuchElementException();
        }
        return analysis.stored[place];
    }

    private char runAsked(int function, int first, int second, int third, boolean isFew) {
        Function started = existing(function);
        asked[0] = first;
        asked[1] = second;
        asked[2] = third;
        for (int i = 0; i < started.parameters && i < MOST_PARAMETERS; i++) {
            if (!isSmall(asked[i]) || started.isListAt(i) && asked[i] < 0) {
                throw new IllegalArgumentException();
            }
        }
        if (!analysis.isRunnable(started)) {
            throw new IllegalStateException();
        }
        lastEnd = runner.execute(started, asked, isFew);
        lastValue = runner.value;
        lastChecks = runner.checkCount;
        lastSteps = runner.begun;
        return lastEnd;
    }

    /** All terms, each with its parts. */
    private static final class Terms {
        static final int NUMBER = 0;
        static final int NAME = 1;
        static final int PLUS = 2;
        static final int SUM = 3;
        static final int LET = 4;
        static final int CHOICE = 5;
        static final int CALL = 6;
        static final int EMPTY = 7;
        static final int AHEAD = 8;
        static final int MATCH = 9;
        static final int CLAIM = 10;

        final int[] kind = new int[MOST_TERMS];
        /** The number, the name, the function or the comparison of a term. */
        final int[] detail = new int[MOST_TERMS];
        /** The name of the rest, of a match. */
        final int[] detailToo = new int[MOST_TERMS];
        final int[] partCount = new int[MOST_TERMS];
        final int[] part = new int[MOST_PARTS * MOST_TERMS];
        final boolean[] isTaken = new boolean[MOST_TERMS];
        final boolean[] isList = new boolean[MOST_TERMS];
        /** Whether all that is to be proved at a call for what is needed, or at a claim, is proved on all ways. */
        final boolean[] isSafe = new boolean[MOST_TERMS];
        int size;

        boolean has(int term) {
            return term >= 0 && term < size && term < MOST_TERMS;
        }

        int add(int newKind, int newDetail, int newDetailToo, int[] parts, int count) {
            if (size < 0 || size >= MOST_TERMS) {
                return -1;
            }
            kind[size] = newKind;
            detail[size] = newDetail;
            detailToo[size] = newDetailToo;
            partCount[size] = count;
            for (int i = 0; i < count && i < MOST_PARTS && i < parts.length; i++) {
                part[MOST_PARTS * size + i] = parts[i];
                take(parts[i], true);
            }
            size++;
            return size - 1;
        }

        void take(int term, boolean isTakenNow) {
            if (term >= 0 && term < MOST_TERMS) {
                isTaken[term] = isTakenNow;
            }
        }

        boolean isTakenAt(int term) {
            return term >= 0 && term < MOST_TERMS && isTaken[term];
        }

        int kindAt(int term) {
            return term >= 0 && term < MOST_TERMS ? kind[term] : NUMBER;
        }

        int detailAt(int term) {
            return term >= 0 && term < MOST_TERMS ? detail[term] : 0;
        }

        int detailTooAt(int term) {
            return term >= 0 && term < MOST_TERMS ? detailToo[term] : 0;
        }

        int partsAt(int term) {
            return term >= 0 && term < MOST_TERMS ? partCount[term] : 0;
        }

        int partAt(int term, int index) {
            boolean isThere = term >= 0 && term < MOST_TERMS && index >= 0 && index < MOST_PARTS;
            return isThere ? part[MOST_PARTS * term + index] : -1;
        }

        boolean isListAt(int term) {
            return term >= 0 && term < MOST_TERMS && isList[term];
        }

        int sortOfPart(int term, int index) {
            boolean isThere = term >= 0 && term < MOST_TERMS && index >= 0 && index < MOST_PARTS;
            int asked = isThere ? part[MOST_PARTS * term + index] : -1;
            return asked >= 0 && asked < MOST_TERMS && isList[asked] ? Checker.LIST : Checker.NUMBER;
        }

        void setList(int term, boolean isListNow) {
            if (term >= 0 && term < MOST_TERMS) {
                isList[term] = isListNow;
            }
        }

        boolean isSafeAt(int term) {
            return term >= 0 && term < MOST_TERMS && isSafe[term];
        }

        void setAllSafe() {
            for (int i = 0; i < MOST_TERMS; i++) {
                isSafe[i] = true;
            }
        }

        void setUnsafe(int term) {
            if (term >= 0 && term < MOST_TERMS) {
                isSafe[term] = false;
            }
        }
    }

    /** Atoms in their order, each once. */
    private static final class Atoms {
        /** Eight patterns give at most six atoms each. */
        static final int ROOM = 48;
        static final int THINGS = 5;
        static final int NUMBERS = 256;

        final int[] code = new int[ROOM];
        final boolean[] isGone = new boolean[ROOM];
        int size;
        /** How many were looked at when it was last asked whether they are held. */
        int looked;
        /** Whether they are to be found, and not told. */
        boolean isFound;

        /** Codes are in the order of their atoms. */
        static int codeOf(int first, int second, int most) {
            return ((first + 1) * THINGS + second + 1) * NUMBERS + most + NUMBERS / 2;
        }

        int firstAt(int index) {
            return index >= 0 && index < ROOM ? code[index] / (THINGS * NUMBERS) - 1 : NOTHING;
        }

        int secondAt(int index) {
            return index >= 0 && index < ROOM ? code[index] / NUMBERS % THINGS - 1 : NOTHING;
        }

        int mostAt(int index) {
            return index >= 0 && index < ROOM ? code[index] % NUMBERS - NUMBERS / 2 : 0;
        }

        boolean has(int asked) {
            for (int i = 0; i < size && i < ROOM; i++) {
                if (code[i] == asked) {
                    return true;
                }
            }
            return false;
        }

        void insert(int added) {
            if (size < 0 || size >= ROOM || has(added)) {
                return;
            }
            int at = size;
            while (at > 0 && code[at - 1] > added) {
                code[at] = code[at - 1];
                at--;
            }
            code[at] = added;
            isGone[size] = false;
            size++;
        }

        /** Whether they hold for the parameters and the result that stand from a place on; up to the first not. */
        boolean areHeld(int[] given, int from) {
            looked = 0;
            for (int i = 0; i < size && i < ROOM; i++) {
                looked++;
                int first = code[i] / (THINGS * NUMBERS) - 1;
                int second = code[i] / NUMBERS % THINGS - 1;
                boolean isFirst = first >= 0 && from >= 0 && from + first < given.length;
                boolean isSecond = second >= 0 && from >= 0 && from + second < given.length;
                int less = (isFirst ? given[from + first] : 0) - (isSecond ? given[from + second] : 0);
                if (less > code[i] % NUMBERS - NUMBERS / 2) {
                    return false;
                }
            }
            return true;
        }

        boolean isGoneAt(int index) {
            return index >= 0 && index < ROOM && isGone[index];
        }

        void drop(int index) {
            if (index >= 0 && index < ROOM) {
                isGone[index] = true;
            }
        }

        /** Takes away what was dropped, and tells whether there was something. */
        boolean sweep() {
            int left = 0;
            int before = size;
            for (int i = 0; i < before && i < ROOM; i++) {
                if (!isGone[i]) {
                    code[left] = code[i];
                    left++;
                }
                isGone[i] = false;
            }
            size = left;
            return left < before;
        }
    }

    private static final class Function {
        final int parameters;
        final int lists;
        final boolean isList;
        final Atoms wants = new Atoms();
        final Atoms yields = new Atoms();
        final int[] place = new int[2];
        final int[] placePlus = new int[2];
        int places;
        boolean isLazy;
        int body = -1;
        char fault = 'b';
        int faultAt;
        int wayCount;
        /** The functions that its body calls, as a sum of powers of 2. */
        int calls;
        /** The functions that it can come to by calls in bodies without errors. */
        int reach;
        /** Whether all that it gives is proved at the end on all ways. */
        boolean isSafe;
        int firstCondition;
        int conditionCount;

        Function(int parameters, int lists, boolean isList) {
            this.parameters = parameters;
            this.lists = lists;
            this.isList = isList;
        }

        boolean hasParameter(int parameter) {
            return parameter >= 0 && parameter < parameters;
        }

        boolean hasThing(int thing) {
            return thing == NOTHING || thing == RESULT || hasParameter(thing);
        }

        boolean isListAt(int parameter) {
            return parameter >= 0 && parameter < parameters && (lists >> parameter & 1) == 1;
        }

        boolean comesTo(int function) {
            return (reach >> function & 1) == 1;
        }
    }

    /**
     * The facts of a way in their order, and what follows from them for the difference of each two things. A value of a
     * way is one number: its thing, and what is added to it.
     */
    private static final class Facts {
        /** Not even 39 calls with 48 atoms each, and 79 with 8 ahead of them, come to so many. */
        static final int ROOM = 3000;
        /** A choice has four parts, so that 120 terms leave room for 29 choices on a way. */
        static final int MOST_UNLIKE = 31;
        static final int THING_SHIFT = 16;
        static final int PLUS_MASK = 65535;
        static final int PLUS_ZERO = 32768;
        /** The value of nothing. */
        static final int ZERO = PLUS_ZERO;
        static final int SHIFT = 7;
        static final int WIDTH = 1 << SHIFT;
        /** Stands for no bound; far above all sums of bounds. */
        static final int FAR = 1 << 28;

        final int[] first = new int[ROOM];
        final int[] second = new int[ROOM];
        final int[] most = new int[ROOM];
        /** Whether a fact is that the difference is not the number, and not that it is at most the number. */
        final boolean[] isUnlike = new boolean[ROOM];
        /** The facts that a difference is not a number. */
        final int[] unlike = new int[MOST_UNLIKE];
        /** For each two things the most that the first one is above the second one, by all other facts. */
        final int[] above = new int[WIDTH * WIDTH];
        int size;
        int things;
        int learned;
        int unlikes;
        /** How many things have their places in the bounds. */
        int placed;
        /** Whether the bounds leave no numbers. */
        boolean isBroken;

        static int valueOf(int thing) {
            return (thing << THING_SHIFT) + PLUS_ZERO;
        }

        void reset(int count) {
            size = 0;
            learned = 0;
            unlikes = 0;
            placed = 0;
            isBroken = false;
            things = count;
        }

        int newThing() {
            if (things < WIDTH) {
                things++;
            }
            return (things - 1 << THING_SHIFT) + PLUS_ZERO;
        }

        void append(int firstValue, int secondValue, int bound, boolean isUnlikeToo) {
            if (size < 0 || size >= ROOM) {
                return;
            }
            first[size] = firstValue >> THING_SHIFT;
            second[size] = secondValue >> THING_SHIFT;
            most[size] = bound - (firstValue & PLUS_MASK) + (secondValue & PLUS_MASK);
            isUnlike[size] = isUnlikeToo;
            size++;
        }

        int firstAt(int fact) {
            return fact >= 0 && fact < ROOM ? first[fact] : 0;
        }

        int secondAt(int fact) {
            return fact >= 0 && fact < ROOM ? second[fact] : 0;
        }

        int mostAt(int fact) {
            return fact >= 0 && fact < ROOM ? most[fact] : 0;
        }

        boolean isUnlikeAt(int fact) {
            return fact >= 0 && fact < ROOM && isUnlike[fact];
        }

        int unlikeAt(int index) {
            return index >= 0 && index < MOST_UNLIKE ? unlike[index] : 0;
        }

        int aboveAt(int thing, int other) {
            boolean isThere = thing >= 0 && thing < WIDTH && other >= 0 && other < WIDTH;
            return isThere ? above[(thing << SHIFT) + other] : FAR;
        }

        /** Brings the bounds up to all facts; apart from appending, so that a condition can come between. */
        void learn() {
            placeThings();
            while (learned >= 0 && learned < size && learned < ROOM) {
                if (!isUnlike[learned]) {
                    bind(first[learned], second[learned], most[learned]);
                } else if (unlikes >= 0 && unlikes < MOST_UNLIKE) {
                    unlike[unlikes] = learned;
                    unlikes++;
                }
                learned++;
            }
        }

        private void placeThings() {
            for (int thing = placed; thing >= 0 && thing < things && thing < WIDTH; thing++) {
                for (int other = 0; other < thing; other++) {
                    above[(thing << SHIFT) + other] = FAR;
                    above[(other << SHIFT) + thing] = FAR;
                }
                above[(thing << SHIFT) + thing] = 0;
                placed = thing + 1;
            }
        }

        /** Learns that a thing less another one is at most a number, and all that follows. */
        private void bind(int thing, int other, int bound) {
            int count = placed < WIDTH ? placed : WIDTH;
            if (thing < 0 || thing >= count || other < 0 || other >= count || isBroken) {
                return;
            }
            if (bound >= above[(thing << SHIFT) + other]) {
                return;
            }
            if (above[(other << SHIFT) + thing] + bound < 0) {
                isBroken = true;
                return;
            }
            for (int i = 0; i < count; i++) {
                int ahead = above[(i << SHIFT) + thing];
                if (ahead < FAR) {
                    for (int j = 0; j < count; j++) {
                        int behind = above[(other << SHIFT) + j];
                        if (behind < FAR && ahead + bound + behind < above[(i << SHIFT) + j]) {
                            above[(i << SHIFT) + j] = ahead + bound + behind;
                        }
                    }
                }
            }
        }
    }

    /**
     * Proves one condition from the facts. The condition is held by the cases in which it does not hold, each of up to
     * three bounds: it is proved if none of them can be together with the facts.
     */
    private static final class Prover {
        static final int MOST_CASES = 4;
        static final int MOST_EDGES = 3;
        static final int FARTHEST = 600;

        final Facts facts;
        final Search search = new Search();
        final int[] edges = new int[MOST_CASES];
        final int[] edgeFirst = new int[MOST_CASES * MOST_EDGES];
        final int[] edgeSecond = new int[MOST_CASES * MOST_EDGES];
        final int[] edgeMost = new int[MOST_CASES * MOST_EDGES];
        /** The facts by which alone the condition is to be proved. */
        final int[] kept = new int[Facts.ROOM];
        /** The most that each thing is above one of them. */
        final int[] high = new int[Facts.WIDTH];
        final int[] needed = new int[Facts.ROOM];
        /** The numbers from which and to which the first parameters reach; in the end, the example. */
        final int[] lowest = new int[MOST_PARAMETERS];
        final int[] chosen = new int[MOST_PARAMETERS];
        int cases;
        int keptCount;
        int neededCount;
        /** Whether the condition can not be told, so that it is neither proved nor has examples. */
        boolean isHopeless;

        Prover(Facts facts) {
            this.facts = facts;
        }

        void forget() {
            cases = 0;
            isHopeless = false;
        }

        void newCase() {
            if (cases >= 0 && cases < MOST_CASES) {
                edges[cases] = 0;
                cases++;
            }
        }

        /** Adds to the last case that a value less another one is at most a number. */
        void addEdge(int firstValue, int secondValue, int most) {
            int last = cases - 1;
            if (last < 0 || last >= MOST_CASES || edges[last] >= MOST_EDGES) {
                return;
            }
            int at = MOST_EDGES * last + edges[last];
            edgeFirst[at] = firstValue >> Facts.THING_SHIFT;
            edgeSecond[at] = secondValue >> Facts.THING_SHIFT;
            edgeMost[at] = most - (firstValue & Facts.PLUS_MASK) + (secondValue & Facts.PLUS_MASK);
            edges[last]++;
        }

        /** Whether the condition holds wherever all facts hold. */
        boolean holds() {
            if (isHopeless || facts.isBroken) {
                return !isHopeless;
            }
            for (int i = 0; i < cases && i < MOST_CASES; i++) {
                int at = MOST_EDGES * i;
                // a bound alone can not be if it makes a ring of bounds below 0
                if (edges[i] == 1 && facts.aboveAt(edgeSecond[at], edgeFirst[at]) + edgeMost[at] < 0) {
                    continue;
                }
                if (edges[i] == 1 && facts.unlikes == 0) {
                    return false;
                }
                loadAll(0);
                return !canFail(0);
            }
            return true;
        }

        /** Lets the search know the cases, nothing and the parameters by their things, and all facts. */
        private void loadAll(int parameters) {
            search.clear();
            for (int i = 0; i <= parameters && i <= MOST_PARAMETERS; i++) {
                search.take(i);
            }
            takeCases();
            for (int i = 0; i < facts.unlikes; i++) {
                int fact = facts.unlikeAt(i);
                search.tell(facts.firstAt(fact), facts.secondAt(fact), facts.mostAt(fact));
            }
            for (int i = 0; i < search.count; i++) {
                for (int j = 0; j < search.count; j++) {
                    search.setBase(i, j, facts.aboveAt(search.thingAt(i), search.thingAt(j)));
                }
            }
        }

        private void takeCases() {
            for (int i = 0; i < cases && i < MOST_CASES; i++) {
                for (int j = 0; j < edges[i] && j < MOST_EDGES; j++) {
                    search.take(edgeFirst[MOST_EDGES * i + j]);
                    search.take(edgeSecond[MOST_EDGES * i + j]);
                }
            }
        }

        /** Whether the facts that the search knows can hold in one of the cases, with the first parameters in reach. */
        private boolean canFail(int fixed) {
            boolean isMet = false;
            for (int i = 0; i < cases && i < MOST_CASES && !isMet; i++) {
                search.start();
                for (int j = 0; j < edges[i] && j < MOST_EDGES; j++) {
                    int at = MOST_EDGES * i + j;
                    search.add(edgeFirst[at], edgeSecond[at], edgeMost[at]);
                }
                for (int j = 0; j < fixed && j < MOST_PARAMETERS; j++) {
                    search.add(j + 1, 0, chosen[j]);
                    search.add(0, j + 1, -lowest[j]);
                }
                search.reduce();
                isMet = search.isOpen();
            }
            return isMet;
        }

        /**
         * Finds the facts that a proved condition needs. Leaving out, in order, what is not needed keeps the last fact
         * from which all later ones are enough, then the last one behind it so together with it, and so on.
         */
        void findNeeded() {
            neededCount = 0;
            int low = 0;
            for (int round = 0; round <= facts.size && !holdsFrom(facts.size); round++) {
                int enough = low;
                int few = facts.size;
                for (int halving = 0; halving < Facts.ROOM && few - enough > 1; halving++) {
                    int middle = (enough + few) / 2;
                    if (holdsFrom(middle)) {
                        enough = middle;
                    } else {
                        few = middle;
                    }
                }
                if (neededCount >= 0 && neededCount < needed.length) {
                    needed[neededCount] = enough;
                    neededCount++;
                }
                low = enough + 1;
            }
        }

        boolean holdsFromNeeded() {
            return holdsFrom(facts.size);
        }

        /** Whether the condition holds by the needed facts so far and all from a place on. */
        private boolean holdsFrom(int from) {
            keptCount = 0;
            for (int i = 0; i < neededCount && i < needed.length && keptCount < kept.length; i++) {
                kept[keptCount] = needed[i];
                keptCount++;
            }
            for (int i = from; i < facts.size && keptCount < kept.length; i++) {
                kept[keptCount] = i;
                keptCount++;
            }
            return !loadKept() || !canFail(0);
        }

        /** Lets the search know the cases and the facts that are kept; false if these alone leave no numbers. */
        private boolean loadKept() {
            search.clear();
            takeCases();
            for (int i = 0; i < keptCount && i < kept.length; i++) {
                int fact = kept[i];
                if (facts.isUnlikeAt(fact)) {
                    search.tell(facts.firstAt(fact), facts.secondAt(fact), facts.mostAt(fact));
                }
            }
            if (!raise(-1)) {
                return false;
            }
            for (int j = 0; j < search.count; j++) {
                raise(search.thingAt(j));
                for (int i = 0; i < search.count; i++) {
                    int thing = search.thingAt(i);
                    search.setBase(i, j, thing >= 0 && thing < high.length ? high[thing] : Facts.FAR);
                }
            }
            return true;
        }

        /** Finds the most that each thing is above one of them, or above 0 for all; false if a ring is below 0. */
        private boolean raise(int lowThing) {
            for (int i = 0; i < high.length; i++) {
                high[i] = lowThing < 0 || lowThing == i ? 0 : Facts.FAR;
            }
            boolean isChanged = true;
            for (int round = 0; round <= facts.things && isChanged; round++) {
                isChanged = false;
                for (int i = 0; i < keptCount && i < kept.length; i++) {
                    // facts are met in turn from both ends: most of what follows goes one way or the other
                    int at = (round & 1) == 0 ? i : keptCount - 1 - i;
                    int fact = at >= 0 && at < kept.length ? kept[at] : -1;
                    if (fact < 0 || fact >= Facts.ROOM || facts.isUnlike[fact]) {
                        continue;
                    }
                    int first = facts.first[fact];
                    int second = facts.second[fact];
                    boolean isThere = first >= 0 && first < high.length && second >= 0 && second < high.length;
                    if (isThere && high[second] < Facts.FAR && high[second] + facts.most[fact] < high[first]) {
                        high[first] = high[second] + facts.most[fact];
                        isChanged = true;
                    }
                }
            }
            return !isChanged;
        }

        /** Finds numbers for the parameters, with which the facts can hold and the condition not. */
        boolean findExample(int parameters) {
            if (isHopeless) {
                return false;
            }
            loadAll(parameters);
            for (int i = 0; i < parameters && i < MOST_PARAMETERS; i++) {
                int near = nearest(i);
                if (near > FARTHEST) {
                    return false;
                }
                within(i, near, near);
                if (near > 0 && !canFail(i + 1)) {
                    within(i, -near, -near);
                }
            }
            return true;
        }

        /** How far from 0 the number of a parameter is at least, if those ahead of it are chosen; or too far. */
        private int nearest(int parameter) {
            within(parameter, 0, 0);
            if (canFail(parameter + 1)) {
                return 0;
            }
            within(parameter, -FARTHEST, FARTHEST);
            if (!canFail(parameter + 1)) {
                return FARTHEST + 1;
            }
            int no = 0;
            int yes = FARTHEST;
            for (int round = 0; round <= FARTHEST && yes - no > 1; round++) {
                int next = Math.max(no + 1, Math.min(2 * no, (no + yes) / 2));
                within(parameter, -next, next);
                if (canFail(parameter + 1)) {
                    yes = next;
                } else {
                    no = next;
                }
            }
            return yes;
        }

        private void within(int parameter, int low, int high) {
            if (parameter >= 0 && parameter < MOST_PARAMETERS) {
                lowest[parameter] = low;
                chosen[parameter] = high;
            }
        }

        int chosenAt(int parameter) {
            return parameter >= 0 && parameter < MOST_PARAMETERS ? chosen[parameter] : 0;
        }

        /** Whether the example breaks its condition while all facts can hold. */
        boolean isBroken(int parameters) {
            loadAll(parameters);
            return canFail(parameters);
        }
    }

    /**
     * Looks for whole numbers within bounds, some differences of which are not to be certain numbers. First all is left
     * out that never keeps numbers from being found. In the rest, the core, it picks a side of one number after the
     * other, below or above. Each bound keeps the picked sides from which it comes; so it is known which sides can not
     * be together, and what else is picked between them is not tried again and again.
     */
    private static final class Search {
        /** Both things of 31 facts, nothing, the parameters, and both ends of a case. */
        static final int SIDE = 72;
        static final int MOST_APART = Facts.MOST_UNLIKE;
        static final int FAR = Facts.FAR;
        /** No way has more than 29 facts that things are unlike; to pick their sides in each way takes fewer turns. */
        static final int MOST_TURNS = 1 << 30;

        /** The things in play; and for each thing its place among them, and one more. */
        final int[] thing = new int[SIDE];
        final int[] place = new int[Facts.WIDTH];
        /** For each two of them the most that the first one is above the second one: by the facts, and in a case. */
        final int[] base = new int[SIDE * SIDE];
        final int[] open = new int[SIDE * SIDE];
        /** What is apart, each by two places, and the number that their difference is not; and what is left of it. */
        final int[] told = new int[3 * MOST_APART];
        final int[] apart = new int[3 * MOST_APART];
        /** Of how many that are left apart each one in play is a part; then its place in the core. */
        final int[] core = new int[SIDE];
        /** The side that is picked at each depth: twice the index of what is apart, and one more for above. */
        final int[] picked = new int[MOST_APART + 1];
        /** The bounds of the core at each depth, and the picked sides from which each comes, as powers of 2. */
        int[] most = new int[64];
        long[] why = new long[64];
        int count;
        int tolds;
        int aparts;
        int width;
        int depth;
        boolean isBroken;
        /** The picked sides that can not be together, if the bounds are broken. */
        long blame;

        void clear() {
            for (int i = 0; i < place.length; i++) {
                place[i] = 0;
            }
            count = 0;
            tolds = 0;
        }

        void take(int newThing) {
            if (newThing >= 0 && newThing < place.length && place[newThing] == 0 && count >= 0 && count < SIDE) {
                thing[count] = newThing;
                count++;
                place[newThing] = count;
            }
        }

        int thingAt(int index) {
            return index >= 0 && index < SIDE ? thing[index] : -1;
        }

        void tell(int first, int second, int number) {
            take(first);
            take(second);
            if (tolds < 0 || tolds >= MOST_APART || first < 0 || first >= place.length
                    || second < 0 || second >= place.length) {
                return;
            }
            told[3 * tolds] = place[first] - 1;
            told[3 * tolds + 1] = place[second] - 1;
            told[3 * tolds + 2] = number;
            tolds++;
        }

        void setBase(int first, int second, int bound) {
            if (first >= 0 && first < SIDE && second >= 0 && second < SIDE) {
                base[first * SIDE + second] = bound;
            }
        }

        /** Begins a case with the facts alone. */
        void start() {
            isBroken = false;
            for (int i = 0; i < count && i < SIDE; i++) {
                System.arraycopy(base, i * SIDE, open, i * SIDE, SIDE);
            }
            System.arraycopy(told, 0, apart, 0, told.length);
            aparts = tolds;
        }

        /** Adds to the case that a thing less another one is at most a number. */
        void add(int first, int second, int bound) {
            if (first >= 0 && first < place.length && second >= 0 && second < place.length) {
                bind(place[first] - 1, place[second] - 1, bound);
            }
        }

        private void bind(int first, int second, int bound) {
            if (first < 0 || first >= SIDE || second < 0 || second >= SIDE || isBroken
                    || bound >= open[first * SIDE + second]) {
                return;
            }
            if (open[second * SIDE + first] + bound < 0) {
                isBroken = true;
                return;
            }
            for (int i = 0; i < count && i < SIDE; i++) {
                int ahead = open[i * SIDE + first];
                if (ahead < FAR) {
                    for (int j = 0; j < count && j < SIDE; j++) {
                        int behind = open[second * SIDE + j];
                        if (behind < FAR && ahead + bound + behind < open[i * SIDE + j]) {
                            open[i * SIDE + j] = ahead + bound + behind;
                        }
                    }
                }
            }
        }

        /** Leaves out what never keeps numbers from being found, and makes the core of the rest. */
        void reduce() {
            trim();
            if (isBroken) {
                return;
            }
            join();
            dropFree();
            openCore();
        }

        /**
         * Tightens bounds by what is apart at their ends, and keeps what is apart by a number between both bounds.
         * Where a difference has no bound on one side, the things can always be moved so far from each other that they
         * differ.
         */
        private void trim() {
            boolean isChanged = true;
            for (int round = 0; round <= MOST_APART && isChanged && !isBroken; round++) {
                isChanged = false;
                int left = 0;
                for (int i = 0; i < aparts && i < MOST_APART; i++) {
                    int first = apart[3 * i];
                    int second = apart[3 * i + 1];
                    int number = apart[3 * i + 2];
                    int up = openAt(first, second);
                    int down = openAt(second, first);
                    boolean isNear = up < FAR && down < FAR;
                    if (isNear && up == number) {
                        bind(first, second, number - 1);
                        isChanged = true;
                    } else if (isNear && down == -number) {
                        bind(second, first, -number - 1);
                        isChanged = true;
                    } else if (isNear && up > number && down > -number) {
                        keep(left, first, second, number);
                        left++;
                    }
                }
                aparts = left;
            }
        }

        private int openAt(int first, int second) {
            boolean isThere = first >= 0 && first < SIDE && second >= 0 && second < SIDE;
            return isThere ? open[first * SIDE + second] : FAR;
        }

        private void keep(int at, int first, int second, int number) {
            if (at >= 0 && at < MOST_APART) {
                apart[3 * at] = first;
                apart[3 * at + 1] = second;
                apart[3 * at + 2] = number;
            }
        }

        /** Puts one thing in place of all that are the same but for a number, and keeps once what is apart then. */
        private void join() {
            int left = 0;
            for (int i = 0; i < aparts && i < MOST_APART; i++) {
                int first = sameAs(apart[3 * i]);
                int second = sameAs(apart[3 * i + 1]);
                int number = apart[3 * i + 2] - openAt(apart[3 * i], first) + openAt(apart[3 * i + 1], second);
                boolean isTurned = first > second;
                int one = isTurned ? second : first;
                int other = isTurned ? first : second;
                int apartBy = isTurned ? -number : number;
                boolean isNew = true;
                for (int j = 0; j < left; j++) {
                    isNew = isNew && (apart[3 * j] != one || apart[3 * j + 1] != other || apart[3 * j + 2] != apartBy);
                }
                if (isNew) {
                    keep(left, one, other, apartBy);
                    left++;
                }
            }
            aparts = left;
        }

        private int sameAs(int index) {
            for (int i = 0; i < index && index < SIDE; i++) {
                int up = open[index * SIDE + i];
                if (up < FAR && open[i * SIDE + index] == -up) {
                    return i;
                }
            }
            return index;
        }

        /** Leaves out each thing that has more numbers, whatever the others are, than it has to be apart from. */
        private void dropFree() {
            for (int i = 0; i < SIDE; i++) {
                core[i] = 0;
            }
            for (int i = 0; i < aparts && i < MOST_APART; i++) {
                countSide(apart[3 * i]);
                countSide(apart[3 * i + 1]);
            }
            boolean isChanged = true;
            for (int round = 0; round <= SIDE && isChanged; round++) {
                isChanged = false;
                for (int i = 0; i < count && i < SIDE; i++) {
                    if (core[i] > 0 && core[i] <= slackOf(i)) {
                        drop(i);
                        isChanged = true;
                    }
                }
            }
        }

        private void countSide(int index) {
            if (index >= 0 && index < SIDE) {
                core[index]++;
            }
        }

        private void drop(int index) {
            int left = 0;
            for (int i = 0; i < aparts && i < MOST_APART; i++) {
                int first = apart[3 * i];
                int second = apart[3 * i + 1];
                boolean isGone = first == index || second == index;
                if (first >= 0 && first < SIDE && second >= 0 && second < SIDE && isGone) {
                    core[first]--;
                    core[second]--;
                } else if (!isGone) {
                    apart[3 * left] = first;
                    apart[3 * left + 1] = second;
                    apart[3 * left + 2] = apart[3 * i + 2];
                    left++;
                }
            }
            aparts = left;
        }

        /** How far the numbers reach at least that a thing can be, whatever the others are. */
        private int slackOf(int index) {
            int least = FAR;
            if (index < 0 || index >= SIDE) {
                return 0;
            }
            for (int i = 0; i < count && i < SIDE; i++) {
                int down = open[i * SIDE + index];
                if (i == index || core[i] == 0 || down >= FAR || open[index * SIDE + i] >= FAR) {
                    continue;
                }
                for (int j = 0; j < count && j < SIDE; j++) {
                    int up = open[index * SIDE + j];
                    boolean isNear = j != index && core[j] > 0 && up < FAR && open[j * SIDE + index] < FAR;
                    if (isNear && down + up - open[i * SIDE + j] < least) {
                        least = down + up - open[i * SIDE + j];
                    }
                }
            }
            return least;
        }

        private void openCore() {
            width = 0;
            for (int i = 0; i < count && i < SIDE; i++) {
                width += core[i] > 0 ? 1 : 0;
            }
            int room = (aparts + 1) * width * width;
            if (most.length < room || why.length < room) {
                most = new int[2 * room];
                why = new long[2 * room];
            }
            int row = 0;
            for (int i = 0; i < count && i < SIDE; i++) {
                int column = 0;
                for (int j = 0; j < count && j < SIDE; j++) {
                    int at = row * width + column;
                    if (core[i] > 0 && core[j] > 0 && at >= 0 && at < most.length && at < why.length) {
                        most[at] = open[i * SIDE + j];
                        why[at] = 0;
                        column++;
                    }
                }
                row += core[i] > 0 ? 1 : 0;
            }
            int next = 0;
            for (int i = 0; i < count && i < SIDE; i++) {
                next += core[i] > 0 ? 1 : 0;
                core[i] = next - 1;
            }
            for (int i = 0; i < aparts && i < MOST_APART; i++) {
                apart[3 * i] = coreAt(apart[3 * i]);
                apart[3 * i + 1] = coreAt(apart[3 * i + 1]);
            }
        }

        private int coreAt(int index) {
            return index >= 0 && index < SIDE ? core[index] : 0;
        }

        /** Learns that a thing of the core less another one is at most a number, because of picked sides. */
        private void bindCore(int first, int second, int bound, long reason) {
            int from = depth * width * width;
            if (first < 0 || first >= width || second < 0 || second >= width || from < 0
                    || from + width * width > most.length || from + width * width > why.length || isBroken
                    || bound >= most[from + first * width + second]) {
                return;
            }
            if (most[from + second * width + first] + bound < 0) {
                isBroken = true;
                blame = reason | why[from + second * width + first];
                return;
            }
            for (int i = 0; i < width; i++) {
                int row = from + i * width;
                int ahead = most[row + first];
                long cause = why[row + first] | reason;
                for (int j = 0; j < width && ahead < FAR; j++) {
                    int behind = most[from + second * width + j];
                    if (behind < FAR && ahead + bound + behind < most[row + j]) {
                        most[row + j] = ahead + bound + behind;
                        why[row + j] = cause | why[from + second * width + j];
                    }
                }
            }
        }

        /** Tightens bounds by what is apart at their ends; false, with the blame for it, if nothing is left. */
        private boolean settle() {
            int from = depth * width * width;
            boolean isChanged = true;
            for (int round = 0; round <= MOST_APART && isChanged && !isBroken; round++) {
                isChanged = false;
                for (int i = 0; i < aparts && i < MOST_APART && !isBroken; i++) {
                    int first = apart[3 * i];
                    int second = apart[3 * i + 1];
                    int number = apart[3 * i + 2];
                    int up = from + first * width + second;
                    int down = from + second * width + first;
                    int end = Math.min(most.length, why.length);
                    if (up < 0 || up >= end || down < 0 || down >= end) {
                        continue;
                    }
                    if (most[up] == number) {
                        bindCore(first, second, number - 1, why[up]);
                        isChanged = true;
                    } else if (most[down] == -number) {
                        bindCore(second, first, -number - 1, why[down]);
                        isChanged = true;
                    }
                }
            }
            return !isBroken;
        }

        /** What is apart, can still be both below and above its number, and reaches least far; -1 if there is none. */
        private int narrowest() {
            int from = depth * width * width;
            int least = FAR;
            int pick = -1;
            for (int i = 0; i < aparts && i < MOST_APART; i++) {
                int number = apart[3 * i + 2];
                int up = from + apart[3 * i] * width + apart[3 * i + 1];
                int down = from + apart[3 * i + 1] * width + apart[3 * i];
                if (up >= 0 && up < most.length && down >= 0 && down < most.length && most[up] > number
                        && most[down] > -number && most[up] + most[down] < least) {
                    least = most[up] + most[down];
                    pick = i;
                }
            }
            return pick;
        }

        /** Goes one deeper, with the bounds as they stand. */
        private void deepen() {
            int cells = width * width;
            int from = depth * cells;
            if (from >= 0 && from + 2 * cells <= most.length && from + 2 * cells <= why.length) {
                System.arraycopy(most, from, most, from + cells, cells);
                System.arraycopy(why, from, why, from + cells, cells);
                depth++;
            }
        }

        /** Takes a side of what is apart, because of picked sides. */
        private void part(int side, long reason) {
            int at = 3 * (side >> 1);
            if (at < 0 || at + 2 >= apart.length) {
                return;
            }
            if ((side & 1) == 0) {
                bindCore(apart[at], apart[at + 1], apart[at + 2] - 1, reason);
            } else {
                bindCore(apart[at + 1], apart[at], -apart[at + 2] - 1, reason);
            }
        }

        /**
         * Whether there are numbers within the bounds of the core for which all differs that is apart. If the picked
         * sides leave none, the last one to blame is given up with all that was picked behind it, and its other side
         * holds, for the reason of those to blame ahead of it.
         */
        boolean isOpen() {
            if (isBroken || aparts == 0) {
                return !isBroken;
            }
            depth = 0;
            for (int turn = 0; turn < MOST_TURNS; turn++) {
                if (settle()) {
                    int pick = narrowest();
                    if (pick < 0 || depth < 0 || depth >= MOST_APART) {
                        return true;
                    }
                    deepen();
                    picked[depth] = 2 * pick;
                    part(2 * pick, 1L << 2 * pick);
                } else {
                    while (depth > 0 && depth <= MOST_APART && (blame >> picked[depth] & 1) == 0) {
                        depth--;
                    }
                    if (depth <= 0 || depth > MOST_APART) {
                        return false;
                    }
                    int side = picked[depth];
                    depth--;
                    isBroken = false;
                    part(side ^ 1, blame & ~(1L << side));
                }
            }
            return true;
        }
    }

    /** Goes through a body part by part, with a row of open terms in place of calls within calls. */
    private abstract static class Pass {
        /** A run begins at most so many terms, and no way through a body has so many. */
        static final int ROOM = 400;

        final Terms terms;
        final Function[] functions;
        final int[] open = new int[ROOM];
        /** The part of each open term that comes next. */
        final int[] next = new int[ROOM];
        /** What the names that an open term binds were outside of it: its first name, and the rest of a match. */
        final int[] outer = new int[ROOM];
        final int[] outerRest = new int[ROOM];
        final int[] values = new int[ROOM];
        final int[] names;
        int namesFrom;
        int depth;
        int height;
        int begun;
        boolean isOver;

        Pass(Terms terms, Function[] functions, int bodies) {
            this.terms = terms;
            this.functions = functions;
            names = new int[bodies > 0 ? NAMES * bodies : 0];
        }

        /** What is to be done ahead of a part; answers the part that begins then, or -1 for none yet. */
        abstract int turn(int term, int part);

        /** What is to be done behind the last part of a term. */
        abstract void close(int term);

        final void clear() {
            depth = 0;
            height = 0;
            begun = 0;
            namesFrom = 0;
            isOver = false;
        }

        final void begin(int term) {
            if (begun >= ROOM || depth < 0 || depth >= ROOM) {
                isOver = true;
                return;
            }
            begun++;
            open[depth] = term;
            next[depth] = 0;
            depth++;
        }

        final void advance() {
            int top = depth - 1;
            if (top < 0 || top >= ROOM) {
                return;
            }
            int term = open[top];
            int part = turn(term, next[top]);
            if (isOver || part < 0) {
                return;
            }
            if (part < terms.partsAt(term)) {
                next[top] = part + 1;
                begin(terms.partAt(term, part));
            } else {
                close(term);
                depth--;
            }
        }

        final void push(int value) {
            if (height >= 0 && height < ROOM) {
                values[height] = value;
                height++;
            }
        }

        final int pop() {
            if (height <= 0 || height > ROOM) {
                return 0;
            }
            height--;
            return values[height];
        }

        final int nameAt(int name) {
            int at = namesFrom + name;
            return name >= 0 && name < NAMES && at >= 0 && at < names.length ? names[at] : 0;
        }

        final void setName(int name, int value) {
            int at = namesFrom + name;
            if (name >= 0 && name < NAMES && at >= 0 && at < names.length) {
                names[at] = value;
            }
        }

        /** Keeps what a name is outside of the term that binds it, and binds it. */
        final void bind(int name, int value, boolean isRest) {
            int at = namesFrom + name;
            int top = depth - 1;
            if (name >= 0 && name < NAMES && at >= 0 && at < names.length && top >= 0 && top < ROOM) {
                if (isRest) {
                    outerRest[top] = names[at];
                } else {
                    outer[top] = names[at];
                }
                names[at] = value;
            }
        }

        final void unbind(int name, boolean isRest) {
            int at = namesFrom + name;
            int top = depth - 1;
            if (name >= 0 && name < NAMES && at >= 0 && at < names.length && top >= 0 && top < ROOM) {
                names[at] = isRest ? outerRest[top] : outer[top];
            }
        }

        /** Only the term for a list that is not empty, which is the last part, has bound names. */
        final void unbindMatch(int term) {
            int top = depth - 1;
            if (top >= 0 && top < ROOM && next[top] == terms.partsAt(term)) {
                unbind(terms.detailAt(term), false);
                unbind(terms.detailTooAt(term), true);
            }
        }

        final Function functionOf(int term) {
            int function = term >= 0 && term < MOST_TERMS ? terms.detail[term] : -1;
            return function >= 0 && function < functions.length ? functions[function] : null;
        }
    }

    /** Looks for the first error of a body, and counts its ways. */
    private static final class Checker extends Pass {
        static final int NUMBER = 0;
        static final int LIST = 1;
        static final int NONE = 2;
        static final int TOO_MANY = MOST_WAYS + 1;

        final int[] waysOf = new int[MOST_TERMS];
        char fault;
        int faultAt;
        int called;

        Checker(Terms terms, Function[] functions) {
            super(terms, functions, 1);
        }

        void check(Function function) {
            clear();
            fault = '-';
            called = 0;
            for (int i = 0; i < NAMES; i++) {
                setName(i, !function.hasParameter(i) ? NONE : function.isListAt(i) ? LIST : NUMBER);
            }
            begin(function.body);
            for (int i = 0; i < MANY && depth > 0 && !isOver; i++) {
                advance();
            }
            if (terms.isListAt(function.body) != function.isList) {
                fail('t', function.body);
            }
            int count = waysAt(function.body);
            if (count > MOST_WAYS) {
                fail('s', function.body);
            }
            function.fault = fault;
            function.faultAt = faultAt;
            function.wayCount = count;
            function.calls = called;
        }

        /** Only the first error counts. */
        private void fail(char kind, int term) {
            if (!isOver) {
                fault = kind;
                faultAt = term;
                isOver = true;
            }
        }

        private int waysAt(int term) {
            return term >= 0 && term < MOST_TERMS ? waysOf[term] : 0;
        }

        int turn(int term, int part) {
            int kind = terms.kindAt(term);
            if (kind == Terms.LET && part == 1) {
                bind(terms.detailAt(term), terms.sortOfPart(term, 0), false);
            } else if (kind == Terms.MATCH && part == 2) {
                bind(terms.detailAt(term), NUMBER, false);
                bind(terms.detailTooAt(term), LIST, true);
            }
            return part;
        }

        void close(int term) {
            int kind = terms.kindAt(term);
            int sort = sortOf(term);
            if (kind == Terms.NAME && sort == NONE) {
                fail('v', term);
            } else if (kind == Terms.CALL && sort == NONE) {
                fail('c', term);
            }
            for (int i = 0; i < terms.partsAt(term) && i < MOST_PARTS; i++) {
                int wanted = sortWanted(term, i);
                if (wanted != NONE && wanted != terms.sortOfPart(term, i)) {
                    fail('t', terms.partAt(term, i));
                }
            }
            terms.setList(term, sort == LIST);
            if (kind == Terms.CALL) {
                called |= 1 << terms.detailAt(term);
            } else if (kind == Terms.LET) {
                unbind(terms.detailAt(term), false);
            } else if (kind == Terms.MATCH) {
                unbindMatch(term);
            }
            countWays(term);
        }

        /** What a term is, if its parts are as they have to be; NONE for a name or a call with an error. */
        private int sortOf(int term) {
            switch (terms.kindAt(term)) {
                case Terms.NAME:
                    return nameAt(terms.detailAt(term));
                case Terms.LET:
                case Terms.MATCH:
                    return terms.sortOfPart(term, 1);
                case Terms.CHOICE:
                case Terms.CLAIM:
                    return terms.sortOfPart(term, 2);
                case Terms.CALL:
                    Function callee = functionOf(term);
                    boolean isWrong = callee == null || callee.parameters != terms.partsAt(term);
                    return isWrong ? NONE : callee.isList ? LIST : NUMBER;
                case Terms.EMPTY:
                case Terms.AHEAD:
                    return LIST;
                default:
                    return NUMBER;
            }
        }

        /** What a part has to be; NONE if it may be both. */
        private int sortWanted(int term, int part) {
            switch (terms.kindAt(term)) {
                case Terms.PLUS:
                case Terms.SUM:
                    return NUMBER;
                case Terms.CHOICE:
                    return part == 3 ? terms.sortOfPart(term, 2) : NONE;
                case Terms.CALL:
                    Function callee = functionOf(term);
                    return callee != null && callee.isListAt(part) ? LIST : NUMBER;
                case Terms.AHEAD:
                    return part == 1 ? LIST : NUMBER;
                case Terms.MATCH:
                    return part == 0 ? LIST : part == 2 ? terms.sortOfPart(term, 1) : NONE;
                default:
                    return NONE;
            }
        }

        private void countWays(int term) {
            int kind = terms.kindAt(term);
            int straight = kind == Terms.CHOICE ? 2 : kind == Terms.MATCH ? 1 : terms.partsAt(term);
            int count = 1;
            for (int i = 0; i < straight && i < MOST_PARTS; i++) {
                count = Math.min(TOO_MANY, count * waysAt(terms.partAt(term, i)));
            }
            if (kind == Terms.CHOICE || kind == Terms.MATCH) {
                count *= waysAt(terms.partAt(term, straight)) + waysAt(terms.partAt(term, straight + 1));
            }
            if (term >= 0 && term < MOST_TERMS) {
                waysOf[term] = Math.min(TOO_MANY, count);
            }
        }
    }

    /** Goes along all ways of a body, and stops at each thing that is to be proved, told or found. */
    private static final class Walker extends Pass {
        static final int WITHIN = 0;
        static final int CALLED = 1;
        static final int CLAIMED = 2;
        static final int ENDED = 3;

        final Facts facts;
        final Prover prover;
        final boolean[] isSecond = new boolean[MOST_TERMS];
        /** The parameters and the result of what is called or ended, or both sides of a claim. */
        final int[] given = new int[RESULT + 1];
        Function own;
        int ownNumber;
        int decided;
        int partings;
        /** What comes ahead of so many partings has come on an earlier way. */
        int freshFrom;
        int stage;
        int stageTerm;
        int taken;
        char kind;
        /** The atoms of which the condition is one, if it is one of atoms. */
        Atoms atoms;
        int atomAt;

        Walker(Terms terms, Function[] functions, Facts facts, Prover prover) {
            super(terms, functions, 1);
            this.facts = facts;
            this.prover = prover;
        }

        void start(int number) {
            isOver = true;
            if (number >= 0 && number < functions.length && functions[number] != null) {
                own = functions[number];
                ownNumber = number;
                decided = 0;
                freshFrom = 0;
                startWay();
            }
        }

        private void startWay() {
            clear();
            partings = 0;
            stage = WITHIN;
            facts.reset(own.parameters + 1);
            for (int i = 0; i < own.parameters && i < MOST_PARAMETERS; i++) {
                given[i] = Facts.valueOf(i + 1);
                setName(i, given[i]);
                if (own.isListAt(i)) {
                    facts.append(Facts.ZERO, given[i], 0, false);
                }
            }
            appendAtoms(own.wants);
            begin(own.body);
        }

        /** Goes on to the next condition; false if there is none any more. */
        boolean goOn() {
            for (int i = 0; i < MANY && !isOver; i++) {
                facts.learn();
                if (stage == WITHIN && depth > 0) {
                    advance();
                } else if (stage == WITHIN) {
                    reachEnd();
                } else if (partings >= freshFrom && take()) {
                    return true;
                } else if (stage != ENDED) {
                    leaveStage();
                } else if (turnToNextWay()) {
                    startWay();
                } else {
                    isOver = true;
                }
            }
            return false;
        }

        /** Whether the condition is one of atoms that are to be found. */
        boolean isFound() {
            return atoms != null && atoms.isFound;
        }

        private void reachEnd() {
            given[RESULT] = pop();
            for (int i = 0; i < own.parameters && i < MOST_PARAMETERS; i++) {
                given[i] = Facts.valueOf(i + 1);
            }
            enter(ENDED, own.body);
        }

        private void enter(int newStage, int term) {
            stage = newStage;
            stageTerm = term;
            taken = 0;
        }

        /** Takes the next condition of a stage, if there is one more. */
        private boolean take() {
            atoms = null;
            if (stage == ENDED) {
                return takeAtom('e', own.yields);
            }
            if (stage == CLAIMED) {
                return takeClaim();
            }
            Function callee = functionOf(stageTerm);
            return callee != null && (takeAtom('p', callee.wants) || takeMetric(callee));
        }

        private boolean takeAtom(char atomKind, Atoms from) {
            if (taken >= from.size) {
                return false;
            }
            kind = atomKind;
            atoms = from;
            atomAt = taken;
            taken++;
            prover.forget();
            prover.newCase();
            prover.addEdge(givenAt(from.secondAt(atomAt)), givenAt(from.firstAt(atomAt)), -from.mostAt(atomAt) - 1);
            return true;
        }

        private boolean takeClaim() {
            kind = 'a';
            taken++;
            prover.forget();
            prover.newCase();
            prover.addEdge(given[1], given[0], -terms.detailAt(stageTerm) - 1);
            return taken == 1;
        }

        private int givenAt(int thing) {
            return thing >= 0 && thing < given.length ? given[thing] : Facts.ZERO;
        }

        private boolean takeMetric(Function callee) {
            int number = terms.detailAt(stageTerm);
            boolean isRing = number == ownNumber || callee.comesTo(ownNumber);
            if (taken > callee.wants.size || !isRing || own.isLazy || callee.isLazy) {
                return false;
            }
            taken++;
            kind = 'm';
            prover.forget();
            prover.isHopeless = own.places == 0 || own.places != callee.places;
            if (!prover.isHopeless) {
                tellMetric(callee);
            }
            return true;
        }

        /** It does not get less if the first place grows, or is below 0, or stays and the second one does not do so. */
        private void tellMetric(Function callee) {
            int calling = Facts.valueOf(own.place[0] + 1) + own.placePlus[0];
            int called = givenAt(callee.place[0]) + callee.placePlus[0];
            boolean isOne = own.places == 1;
            prover.newCase();
            prover.addEdge(calling, called, isOne ? 0 : -1);
            prover.newCase();
            prover.addEdge(called, Facts.ZERO, -1);
            if (isOne) {
                return;
            }
            prover.addEdge(called, calling, -1);
            int callingToo = Facts.valueOf(own.place[1] + 1) + own.placePlus[1];
            int calledToo = givenAt(callee.place[1]) + callee.placePlus[1];
            prover.newCase();
            prover.addEdge(called, calling, 0);
            prover.addEdge(calling, called, 0);
            prover.addEdge(callingToo, calledToo, 0);
            prover.newCase();
            prover.addEdge(called, calling, 0);
            prover.addEdge(calling, called, 0);
            prover.addEdge(calledToo, Facts.ZERO, -1);
        }

        /** Behind the conditions of a call or a claim come its facts. */
        private void leaveStage() {
            Function callee = stage == CALLED ? functionOf(stageTerm) : null;
            if (stage == CLAIMED) {
                facts.append(given[0], given[1], terms.detailAt(stageTerm), false);
            } else if (callee != null) {
                if (callee.isList) {
                    facts.append(Facts.ZERO, given[RESULT], 0, false);
                }
                appendAtoms(callee.yields);
            }
            stage = WITHIN;
        }

        private void appendAtoms(Atoms added) {
            for (int i = 0; i < added.size; i++) {
                facts.append(givenAt(added.firstAt(i)), givenAt(added.secondAt(i)), added.mostAt(i), false);
            }
        }

        private boolean turnToNextWay() {
            int last = decided - 1;
            while (last >= 0 && last < isSecond.length && isSecond[last]) {
                last--;
            }
            if (last < 0 || last >= isSecond.length) {
                return false;
            }
            isSecond[last] = true;
            decided = last + 1;
            freshFrom = decided;
            return true;
        }

        /** At a parting: the way goes on as it is decided, or first to the first term. */
        private boolean goesSecond() {
            int at = partings;
            partings++;
            if (at < 0 || at >= isSecond.length) {
                return false;
            }
            if (at >= decided) {
                isSecond[at] = false;
                decided = at + 1;
            }
            return isSecond[at];
        }

        int turn(int term, int part) {
            switch (terms.kindAt(term)) {
                case Terms.LET:
                    if (part == 1) {
                        bind(terms.detailAt(term), pop(), false);
                    }
                    return part;
                case Terms.CHOICE:
                    return part < 2 ? part : part == 2 ? partChoice(term) : MOST_PARTS;
                case Terms.MATCH:
                    return part < 1 ? part : part == 1 ? partMatch(term) : MOST_PARTS;
                case Terms.CLAIM:
                    if (part == 2) {
                        given[1] = pop();
                        given[0] = pop();
                        enter(CLAIMED, term);
                    }
                    return part;
                default:
                    return part;
            }
        }

        private int partChoice(int term) {
            int second = pop();
            int first = pop();
            boolean isEqual = terms.detailAt(term) == '=';
            if (goesSecond()) {
                facts.append(isEqual ? first : second, isEqual ? second : first, 0, isEqual);
                return 3;
            }
            facts.append(first, second, isEqual ? 0 : -1, false);
            if (isEqual) {
                facts.append(second, first, 0, false);
            }
            return 2;
        }

        private int partMatch(int term) {
            int list = pop();
            if (goesSecond()) {
                facts.append(Facts.ZERO, list, -1, false);
                bind(terms.detailAt(term), facts.newThing(), false);
                bind(terms.detailTooAt(term), list - 1, true);
                return 2;
            }
            facts.append(list, Facts.ZERO, 0, false);
            return 1;
        }

        void close(int term) {
            int detail = terms.detailAt(term);
            switch (terms.kindAt(term)) {
                case Terms.NUMBER:
                    push(Facts.ZERO + detail);
                    break;
                case Terms.NAME:
                    push(nameAt(detail));
                    break;
                case Terms.PLUS:
                    push(pop() + detail);
                    break;
                case Terms.SUM:
                    closePair(facts.newThing());
                    break;
                case Terms.LET:
                    unbind(detail, false);
                    break;
                case Terms.CALL:
                    closeCall(term);
                    break;
                case Terms.EMPTY:
                    push(Facts.ZERO);
                    break;
                case Terms.AHEAD:
                    int rest = pop();
                    push(rest);
                    closePair(rest + 1);
                    break;
                case Terms.MATCH:
                    unbindMatch(term);
                    break;
                default:
                    break;
            }
        }

        private void closePair(int value) {
            pop();
            pop();
            push(value);
        }

        private void closeCall(int term) {
            for (int i = Math.min(terms.partsAt(term), MOST_PARAMETERS) - 1; i >= 0; i--) {
                given[i] = pop();
            }
            given[RESULT] = facts.newThing();
            push(given[RESULT]);
            enter(CALLED, term);
        }
    }

    /** Runs functions. A list is the number of its first cell; the cells 0 to 600 are the lists of so many zeros. */
    private static final class Runner extends Pass {
        /** The function that is run first, a call within 30 other ones, and these. */
        static final int MOST_CALLS = 32;
        static final int ZEROS = 601;
        static final int CELLS = ZEROS + ROOM;
        static final int MOST_MADE = 1000000;

        final int[] cellFirst = new int[CELLS];
        final int[] cellRest = new int[CELLS];
        final int[] cellLength = new int[CELLS];
        /** The parameters and the result of each open call, a list as its length. */
        final int[] given = new int[MOST_CALLS * (RESULT + 1)];
        int cells;
        int calls;
        int checkCount;
        /** How the run ended: with the limits, if nothing else. */
        char end;
        int value;
        boolean isFew;

        Runner(Terms terms, Function[] functions) {
            super(terms, functions, MOST_CALLS);
            for (int i = 1; i < ZEROS; i++) {
                cellRest[i] = i - 1;
                cellLength[i] = i;
            }
        }

        char execute(Function function, int[] numbers, boolean isFewNow) {
            clear();
            isFew = isFewNow;
            end = 'l';
            value = 0;
            calls = 0;
            checkCount = 0;
            cells = ZEROS;
            for (int i = 0; i < function.parameters && i < numbers.length; i++) {
                push(numbers[i]);
            }
            openCall(function);
            boolean isHeld = function.wants.areHeld(given, 0);
            checkCount += function.wants.looked;
            if (isHeld) {
                begin(function.body);
            } else {
                finish('p');
            }
            for (int i = 0; i < MANY && depth > 0 && !isOver; i++) {
                advance();
            }
            if (!isOver) {
                leaveCall(function);
            }
            if (!isOver) {
                value = measure(pop(), function.isList);
                finish('v');
            }
            return end;
        }

        private void finish(char newEnd) {
            end = newEnd;
            isOver = true;
        }

        private int measure(int content, boolean isList) {
            return isList && content >= 0 && content < CELLS ? cellLength[content] : content;
        }

        /** Takes the parameters from the values. */
        private void openCall(Function function) {
            namesFrom = NAMES * calls;
            int from = (RESULT + 1) * calls;
            calls++;
            for (int i = function.parameters - 1; i >= 0; i--) {
                int content = pop();
                setName(i, content);
                if (from >= 0 && from + i < given.length) {
                    given[from + i] = measure(content, function.isListAt(i));
                }
            }
        }

        /** Checks what a function gives, and goes back to the names of what called it. */
        private void leaveCall(Function function) {
            int from = (RESULT + 1) * (calls - 1);
            int content = pop();
            push(content);
            if (from >= 0 && from + RESULT < given.length) {
                given[from + RESULT] = measure(content, function.isList);
            }
            if (!isFew || !function.isSafe) {
                boolean isHeld = function.yields.areHeld(given, from);
                checkCount += function.yields.looked;
                if (!isHeld) {
                    finish('e');
                }
            }
            calls--;
            namesFrom = NAMES * (calls - 1);
        }

        int turn(int term, int part) {
            switch (terms.kindAt(term)) {
                case Terms.LET:
                    if (part == 1) {
                        bind(terms.detailAt(term), pop(), false);
                    }
                    return part;
                case Terms.CHOICE:
                    return part < 2 ? part : part == 2 ? partChoice(term) : MOST_PARTS;
                case Terms.MATCH:
                    return part < 1 ? part : part == 1 ? partMatch(term) : MOST_PARTS;
                case Terms.CLAIM:
                    if (part == 2) {
                        checkClaim(term);
                    }
                    return part;
                case Terms.CALL:
                    Function callee = functionOf(term);
                    int count = terms.partsAt(term);
                    if (part == count && callee != null) {
                        openCall(callee);
                        enterBody(term, callee);
                        return -1;
                    }
                    if (part > count && callee != null) {
                        leaveCall(callee);
                    }
                    return part;
                default:
                    return part;
            }
        }

        private int partChoice(int term) {
            int second = measure(pop(), terms.sortOfPart(term, 1) == Checker.LIST);
            int first = measure(pop(), terms.sortOfPart(term, 0) == Checker.LIST);
            boolean isHeld = terms.detailAt(term) == '=' ? first == second : first < second;
            return isHeld ? 2 : 3;
        }

        private int partMatch(int term) {
            int list = pop();
            if (list <= 0 || list >= CELLS) {
                return 1;
            }
            bind(terms.detailAt(term), cellFirst[list], false);
            bind(terms.detailTooAt(term), cellRest[list], true);
            return 2;
        }

        private void checkClaim(int term) {
            int second = measure(pop(), terms.sortOfPart(term, 1) == Checker.LIST);
            int first = measure(pop(), terms.sortOfPart(term, 0) == Checker.LIST);
            if (isFew && terms.isSafeAt(term)) {
                return;
            }
            checkCount++;
            if (first - second > terms.detailAt(term)) {
                finish('a');
            }
        }

        /** Behind its parts a call goes on to the body of the function, as if that were one part more. */
        private void enterBody(int term, Function callee) {
            int top = depth - 1;
            if (calls > MOST_CALLS || top < 0 || top >= ROOM) {
                finish('l');
                return;
            }
            next[top]++;
            boolean isHeld = true;
            if (!isFew || !terms.isSafeAt(term)) {
                isHeld = callee.wants.areHeld(given, (RESULT + 1) * (calls - 1));
                checkCount += callee.wants.looked;
            }
            if (isHeld) {
                begin(callee.body);
            } else {
                finish('p');
            }
        }

        void close(int term) {
            int detail = terms.detailAt(term);
            switch (terms.kindAt(term)) {
                case Terms.NUMBER:
                    push(detail);
                    break;
                case Terms.NAME:
                    push(nameAt(detail));
                    break;
                case Terms.PLUS:
                    pushMade(pop() + detail);
                    break;
                case Terms.SUM:
                    pushMade(pop() + pop());
                    break;
                case Terms.LET:
                    unbind(detail, false);
                    break;
                case Terms.EMPTY:
                    push(0);
                    break;
                case Terms.AHEAD:
                    closeAhead();
                    break;
                case Terms.MATCH:
                    unbindMatch(term);
                    break;
                default:
                    break;
            }
        }

        private void pushMade(int number) {
            if (number < -MOST_MADE || number > MOST_MADE) {
                finish('o');
            }
            push(number);
        }

        private void closeAhead() {
            int rest = pop();
            int first = pop();
            if (cells >= 0 && cells < CELLS && rest >= 0 && rest < cells) {
                cellFirst[cells] = first;
                cellRest[cells] = rest;
                cellLength[cells] = cellLength[rest] + 1;
                push(cells);
                cells++;
            }
        }
    }

    /** What is known of all functions together, made anew when it is asked for behind a change. */
    private static final class Analysis {
        static final int MOST_STORED = 1 << 17;

        final Terms terms;
        final Function[] functions;
        final Walker walker;
        final Prover prover;
        final Runner runner;
        final int[] patternFirst = new int[MOST_PATTERNS];
        final int[] patternSecond = new int[MOST_PATTERNS];
        final int[] patternMost = new int[MOST_PATTERNS];
        int patternCount;
        /** All conditions, each packed in one number. */
        int[] stored = new int[256];
        int storedCount;
        int provedCount;
        long neededSum;
        boolean isAllSound;
        boolean isKnown;
        boolean isDepthKnown;

        Analysis(Terms terms, Function[] functions, Walker walker, Prover prover, Runner runner) {
            this.terms = terms;
            this.functions = functions;
            this.walker = walker;
            this.prover = prover;
            this.runner = runner;
        }

        static char kindIn(int packed) {
            int code = packed & 3;
            return code == 0 ? 'p' : code == 1 ? 'm' : code == 2 ? 'a' : 'e';
        }

        static boolean isProvedIn(int packed) {
            return (packed >> 2 & 1) == 1;
        }

        static int termIn(int packed) {
            return packed >> 3 & 127;
        }

        static int factsIn(int packed) {
            return packed >> 10;
        }

        private static int pack(char kind, boolean isProved, int term, int facts) {
            int code = kind == 'p' ? 0 : kind == 'm' ? 1 : kind == 'a' ? 2 : 3;
            return code + (isProved ? 4 : 0) + (term << 3) + (facts << 10);
        }

        void addPattern(int first, int second, int most) {
            if (patternCount >= 0 && patternCount < MOST_PATTERNS) {
                patternFirst[patternCount] = first;
                patternSecond[patternCount] = second;
                patternMost[patternCount] = most;
                patternCount++;
                forget();
            }
        }

        void forget() {
            isKnown = false;
            isDepthKnown = false;
        }

        private boolean isWalked(int function) {
            return function >= 0 && function < functions.length && functions[function] != null
                    && functions[function].fault == '-';
        }

        /** Finds out to which functions each one can come by calls in bodies without errors. */
        void linkCalls() {
            for (int i = 0; i < functions.length && functions[i] != null; i++) {
                int reach = isWalked(i) ? functions[i].calls : 0;
                for (int round = 0; round < MOST_FUNCTIONS; round++) {
                    for (int j = 0; j < functions.length; j++) {
                        if ((reach >> j & 1) == 1 && isWalked(j)) {
                            reach |= functions[j].calls;
                        }
                    }
                }
                functions[i].reach = reach;
            }
        }

        boolean isRunnable(Function function) {
            if (function.fault != '-') {
                return false;
            }
            for (int i = 0; i < functions.length; i++) {
                if (function.comesTo(i) && !isWalked(i)) {
                    return false;
                }
            }
            return true;
        }

        /** Finds what is to be found, and then goes through all conditions. */
        void refresh() {
            if (isKnown) {
                return;
            }
            isKnown = true;
            for (int i = 0; i < functions.length && functions[i] != null; i++) {
                collect(functions[i], functions[i].wants, false);
                collect(functions[i], functions[i].yields, true);
            }
            boolean isChanged = true;
            for (int round = 0; round < MANY && isChanged; round++) {
                for (int i = 0; i < functions.length; i++) {
                    if (isWalked(i) && concernsFound(functions[i])) {
                        sift(i);
                    }
                }
                isChanged = sweep();
            }
            storedCount = 0;
            provedCount = 0;
            terms.setAllSafe();
            for (int i = 0; i < functions.length && functions[i] != null; i++) {
                functions[i].firstCondition = storedCount;
                functions[i].isSafe = true;
                if (isWalked(i)) {
                    report(i, functions[i]);
                }
                functions[i].conditionCount = storedCount - functions[i].firstCondition;
            }
        }

        /** Lets atoms that are to be found be all atoms of patterns, from which those that do not hold are dropped. */
        private void collect(Function function, Atoms atoms, boolean isGiven) {
            if (!atoms.isFound) {
                return;
            }
            atoms.size = 0;
            for (int i = 0; i < patternCount && i < MOST_PATTERNS && function.fault == '-'; i++) {
                int first = patternFirst[i];
                int second = patternSecond[i];
                if (!isGiven && (first == 2 || second == 2)) {
                    continue;
                }
                for (int j = 0; j < spread(first, function); j++) {
                    for (int k = 0; k < spread(second, function); k++) {
                        int one = thingOf(first, j);
                        int other = thingOf(second, k);
                        if (one != other) {
                            atoms.insert(Atoms.codeOf(one, other, patternMost[i]));
                        }
                    }
                }
            }
        }

        private static int spread(int patternThing, Function function) {
            return patternThing == 1 ? function.parameters : 1;
        }

        private static int thingOf(int patternThing, int parameter) {
            return patternThing == 0 ? NOTHING : patternThing == 1 ? parameter : RESULT;
        }

        private boolean concernsFound(Function function) {
            if (function.yields.isFound && function.yields.size > 0) {
                return true;
            }
            for (int i = 0; i < functions.length; i++) {
                if ((function.calls >> i & 1) == 1 && functions[i] != null
                        && functions[i].wants.isFound && functions[i].wants.size > 0) {
                    return true;
                }
            }
            return false;
        }

        private void sift(int function) {
            walker.start(function);
            for (int i = 0; i < MANY && walker.goOn(); i++) {
                Atoms atoms = walker.atoms;
                if (atoms != null && atoms.isFound && !atoms.isGoneAt(walker.atomAt) && !prover.holds()) {
                    atoms.drop(walker.atomAt);
                }
            }
        }

        private boolean sweep() {
            boolean isChanged = false;
            for (int i = 0; i < functions.length && functions[i] != null; i++) {
                isChanged = functions[i].wants.sweep() || isChanged;
                isChanged = functions[i].yields.sweep() || isChanged;
            }
            return isChanged;
        }

        private void report(int number, Function function) {
            walker.start(number);
            for (int i = 0; i < MANY && walker.goOn(); i++) {
                if (walker.isFound()) {
                    continue;
                }
                boolean isProved = prover.holds();
                if (!isProved && walker.kind == 'e') {
                    function.isSafe = false;
                } else if (!isProved && walker.kind != 'm') {
                    terms.setUnsafe(walker.stageTerm);
                }
                store(pack(walker.kind, isProved, walker.stageTerm, walker.facts.size));
                provedCount += isProved ? 1 : 0;
            }
        }

        private void store(int packed) {
            if (storedCount >= stored.length && stored.length < MOST_STORED) {
                stored = Arrays.copyOf(stored, 2 * stored.length);
            }
            if (storedCount >= 0 && storedCount < stored.length) {
                stored[storedCount] = packed;
                storedCount++;
            }
        }

        /** Lets the walker stand at a condition that is told. */
        void walkTo(int function, int index) {
            walker.start(function);
            int left = index;
            for (int i = 0; i < MANY && walker.goOn(); i++) {
                if (!walker.isFound()) {
                    if (left == 0) {
                        return;
                    }
                    left--;
                }
            }
        }

        /** Goes through all conditions with the facts that they need, and with their examples. */
        void deepen() {
            if (isDepthKnown) {
                return;
            }
            isDepthKnown = true;
            isAllSound = true;
            neededSum = 0;
            for (int i = 0; i < functions.length; i++) {
                if (!isWalked(i)) {
                    continue;
                }
                walker.start(i);
                for (int j = 0; j < MANY && walker.goOn(); j++) {
                    if (walker.isFound()) {
                        continue;
                    }
                    if (prover.holds()) {
                        prover.findNeeded();
                        neededSum += prover.neededCount;
                        isAllSound = isAllSound && prover.holdsFromNeeded();
                    } else if (prover.findExample(functions[i].parameters)) {
                        isAllSound = isAllSound && prover.isBroken(functions[i].parameters);
                        char end = isRunnable(functions[i]) ? runner.execute(functions[i], prover.chosen, false) : '-';
                        if (end == walker.kind && runner.execute(functions[i], prover.chosen, true) != end) {
                            isAllSound = false;
                        }
                    }
                }
            }
        }
    }
}
