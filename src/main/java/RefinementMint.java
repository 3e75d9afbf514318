import java.util.Arrays;
import java.util.NoSuchElementException;

/** A language whose functions carry conditions, and a solver that proves them or finds numbers against them. */
public final class RefinementMint {
    private static final int MOST_TERMS = 120;
    private static final int MOST_PARTS = 4;
    private static final int MOST_FUNCTIONS = 6;
    private static final int MOST_PARAMETERS = 3;
    private static final int MOST_PATTERNS = 8;
    private static final int MOST_TOLD = 4;
    private static final int MOST_WAYS = 40;
    private static final int MOST_SMALL = 99;
    private static final int NAMES = 10;
    private static final int NOTHING = -1;
    private static final int RESULT = 3;
    /** Stands above the turns of every loop whose bound the document does not tell. */
    private static final int MANY = 1000000;

    private final Terms terms;
    private final Function[] functions;
    private final int[] asked;
    private final Checker checker;
    private final Walker walker;
    private final Prover prover;
    private final Runner runner;
    private final Analysis analysis;
    private int functionCount;
    private char lastEnd;
    private int lastValue;
    private int lastChecks;
    private int lastSteps;

    public RefinementMint() {
        terms = new Terms();
        functions = new Function[MOST_FUNCTIONS];
        asked = new int[MOST_PARTS];
        Facts facts = new Facts();
        checker = new Checker(terms, functions);
        prover = new Prover(facts);
        walker = new Walker(terms, functions, facts, prover);
        runner = new Runner(terms, functions);
        analysis = new Analysis(terms, functions, walker, prover, runner);
        lastEnd = '-';
    }

    public int addFunction(int parameters, int lists, boolean isList) throws IllegalArgumentException, IllegalStateException {
        if (parameters < 0 || parameters > MOST_PARAMETERS || lists < 0 || lists >= 1 << parameters) {
            throw new IllegalArgumentException();
        }
        if (functionCount < 0 || functionCount >= MOST_FUNCTIONS) {
            throw new IllegalStateException();
        }
        functions[functionCount] = new Function(parameters, lists, isList);
        functionCount++;
        return functionCount - 1;
    }

    public int needs(int function, int first, int second, int most) throws IndexOutOfBoundsException, IllegalArgumentException, IllegalStateException {
        Function asker = existing(function);
        if (!asker.hasParameter(first) && first != NOTHING || !asker.hasParameter(second) && second != NOTHING
                || first == second || !isSmall(most)) {
            throw new IllegalArgumentException();
        }
        return tell(asker.wants, Atoms.codeOf(first, second, most));
    }

    public int gives(int function, int first, int second, int most) throws IndexOutOfBoundsException, IllegalArgumentException, IllegalStateException {
        Function giver = existing(function);
        if (!giver.hasThing(first) || !giver.hasThing(second) || first == second || !isSmall(most)) {
            throw new IllegalArgumentException();
        }
        return tell(giver.yields, Atoms.codeOf(first, second, most));
    }

    public int findNeeds(int function) throws IndexOutOfBoundsException {
        Function asker = existing(function);
        return leaveToFind(asker.wants);
    }

    public int findGives(int function) throws IndexOutOfBoundsException {
        Function giver = existing(function);
        return leaveToFind(giver.yields);
    }

    public int pattern(int first, int second, int most) throws IllegalArgumentException, IllegalStateException {
        if (first < 0 || first > 2 || second < 0 || second > 2 || first == second && first != 1 || !isSmall(most)) {
            throw new IllegalArgumentException();
        }
        if (analysis.patternCount >= MOST_PATTERNS) {
            throw new IllegalStateException();
        }
        analysis.addPattern(first, second, most);
        return analysis.patternCount;
    }

    public int metric(int function, int first, int firstPlus, int second, int secondPlus) throws IndexOutOfBoundsException, IllegalArgumentException {
        Function measured = existing(function);
        if (!measured.hasParameter(first) || !isSmall(firstPlus)
                || second != -1 && (!measured.hasParameter(second) || !isSmall(secondPlus))) {
            throw new IllegalArgumentException();
        }
        measured.place[0] = first;
        measured.placePlus[0] = firstPlus;
        measured.place[1] = second;
        measured.placePlus[1] = secondPlus;
        measured.places = second == -1 ? 1 : 2;
        analysis.forget();
        return measured.places;
    }

    public boolean setLazy(int function, boolean isLazy) throws IndexOutOfBoundsException {
        Function changed = existing(function);
        boolean wasLazy = changed.isLazy;
        changed.isLazy = isLazy;
        analysis.forget();
        return wasLazy;
    }

    public char setBody(int function, int body) throws IndexOutOfBoundsException, UnsupportedOperationException {
        Function owner = existing(function);
        if (!terms.has(body)) {
            throw new IndexOutOfBoundsException();
        }
        if (terms.isTakenAt(body)) {
            throw new UnsupportedOperationException();
        }
        terms.take(owner.body, false);
        terms.take(body, true);
        owner.body = body;
        checker.check(owner);
        analysis.forget();
        analysis.linkCalls();
        return owner.fault;
    }

    public int number(int value) throws IllegalArgumentException, IllegalStateException {
        if (!isSmall(value)) {
            throw new IllegalArgumentException();
        }
        return make(Terms.NUMBER, value, 0, 0);
    }

    public int name(int name) throws IllegalArgumentException, IllegalStateException {
        if (!isName(name)) {
            throw new IllegalArgumentException();
        }
        return make(Terms.NAME, name, 0, 0);
    }

    public int plus(int term, int more) throws IllegalArgumentException, IndexOutOfBoundsException, UnsupportedOperationException, IllegalStateException {
        if (!isSmall(more)) {
            throw new IllegalArgumentException();
        }
        asked[0] = term;
        return make(Terms.PLUS, more, 0, 1);
    }

    public int sum(int first, int second) throws IndexOutOfBoundsException, UnsupportedOperationException, IllegalStateException {
        asked[0] = first;
        asked[1] = second;
        return make(Terms.SUM, 0, 0, 2);
    }

    public int let(int name, int bound, int body) throws IllegalArgumentException, IndexOutOfBoundsException, UnsupportedOperationException, IllegalStateException {
        if (!isName(name)) {
            throw new IllegalArgumentException();
        }
        asked[0] = bound;
        asked[1] = body;
        return make(Terms.LET, name, 0, 2);
    }

    public int choice(char comparison, int first, int second, int yes, int no) throws IllegalArgumentException, IndexOutOfBoundsException, UnsupportedOperationException, IllegalStateException {
        if (comparison != '<' && comparison != '=') {
            throw new IllegalArgumentException();
        }
        asked[0] = first;
        asked[1] = second;
        asked[2] = yes;
        asked[3] = no;
        return make(Terms.CHOICE, comparison, 0, 4);
    }

    public int call(int function, int first, int second, int third) throws NoSuchElementException, IndexOutOfBoundsException, UnsupportedOperationException, IllegalStateException {
        if (functionAt(function) == null) {
            throw new NoSuchElementException();
        }
        if (first == -1 && (second != -1 || third != -1) || second == -1 && third != -1) {
            throw new IndexOutOfBoundsException();
        }
        asked[0] = first;
        asked[1] = second;
        asked[2] = third;
        return make(Terms.CALL, function, 0, first == -1 ? 0 : second == -1 ? 1 : third == -1 ? 2 : 3);
    }

    public int empty() throws IllegalStateException {
        return make(Terms.EMPTY, 0, 0, 0);
    }

    public int ahead(int first, int rest) throws IndexOutOfBoundsException, UnsupportedOperationException, IllegalStateException {
        asked[0] = first;
        asked[1] = rest;
        return make(Terms.AHEAD, 0, 0, 2);
    }

    public int match(int list, int none, int first, int rest, int some) throws IllegalArgumentException, IndexOutOfBoundsException, UnsupportedOperationException, IllegalStateException {
        if (!isName(first) || !isName(rest) || first == rest) {
            throw new IllegalArgumentException();
        }
        asked[0] = list;
        asked[1] = none;
        asked[2] = some;
        return make(Terms.MATCH, first, rest, 3);
    }

    public int claim(int first, int second, int most, int term) throws IllegalArgumentException, IndexOutOfBoundsException, UnsupportedOperationException, IllegalStateException {
        if (!isSmall(most)) {
            throw new IllegalArgumentException();
        }
        asked[0] = first;
        asked[1] = second;
        asked[2] = term;
        return make(Terms.CLAIM, most, 0, 3);
    }

    public char error(int function) throws IndexOutOfBoundsException {
        Function owner = existing(function);
        return owner.fault;
    }

    public int errorAt(int function) throws IndexOutOfBoundsException, NoSuchElementException {
        Function owner = existing(function);
        if (owner.fault == '-' || owner.fault == 'b') {
            throw new NoSuchElementException();
        }
        return owner.faultAt;
    }

    public int ways(int function) throws IndexOutOfBoundsException, IllegalStateException {
        return faultless(function).wayCount;
    }

    public int conditions(int function) throws IndexOutOfBoundsException, IllegalStateException {
        Function owner = faultless(function);
        analysis.refresh();
        return owner.conditionCount;
    }

    public char kindOf(int function, int index) throws IndexOutOfBoundsException, IllegalStateException, NoSuchElementException {
        analysis.refresh();
        return Analysis.kindIn(storedCondition(function, index));
    }

    public int termOf(int function, int index) throws IndexOutOfBoundsException, IllegalStateException, NoSuchElementException {
        analysis.refresh();
        return Analysis.termIn(storedCondition(function, index));
    }

    public boolean isProved(int function, int index) throws IndexOutOfBoundsException, IllegalStateException, NoSuchElementException {
        analysis.refresh();
        return Analysis.isProvedIn(storedCondition(function, index));
    }

    public int facts(int function, int index) throws IndexOutOfBoundsException, IllegalStateException, NoSuchElementException {
        analysis.refresh();
        return Analysis.factsIn(storedCondition(function, index));
    }

    public int needed(int function, int index) throws IndexOutOfBoundsException, IllegalStateException, NoSuchElementException, UnsupportedOperationException {
        analysis.refresh();
        if (!Analysis.isProvedIn(storedCondition(function, index))) {
            throw new UnsupportedOperationException();
        }
        analysis.walkTo(function, index);
        prover.findNeeded();
        return prover.neededCount;
    }

    public int neededAt(int function, int index, int place) throws IndexOutOfBoundsException, IllegalStateException, NoSuchElementException, UnsupportedOperationException {
        analysis.refresh();
        if (!Analysis.isProvedIn(storedCondition(function, index))) {
            throw new UnsupportedOperationException();
        }
        analysis.walkTo(function, index);
        prover.findNeeded();
        if (place < 0 || place >= prover.neededCount || place >= prover.needed.length) {
            throw new NoSuchElementException();
        }
        return prover.needed[place];
    }

    public int example(int function, int index, int parameter) throws IndexOutOfBoundsException, IllegalStateException, NoSuchElementException {
        analysis.refresh();
        boolean isProved = Analysis.isProvedIn(storedCondition(function, index));
        Function owner = existing(function);
        if (isProved || !owner.hasParameter(parameter)) {
            throw new NoSuchElementException();
        }
        analysis.walkTo(function, index);
        if (!prover.findExample(owner.parameters)) {
            throw new NoSuchElementException();
        }
        return prover.chosenAt(parameter);
    }

    public boolean isReal(int function, int index) throws IndexOutOfBoundsException, IllegalStateException, NoSuchElementException {
        analysis.refresh();
        int stored = storedCondition(function, index);
        Function owner = existing(function);
        if (Analysis.isProvedIn(stored)) {
            throw new NoSuchElementException();
        }
        analysis.walkTo(function, index);
        if (!prover.findExample(owner.parameters)) {
            throw new NoSuchElementException();
        }
        return analysis.isRunnable(owner) && runner.execute(owner, prover.chosen, false) == Analysis.kindIn(stored);
    }

    public int allNeeds(int function) throws IndexOutOfBoundsException {
        Function asker = existing(function);
        analysis.refresh();
        return asker.wants.size;
    }

    public boolean doesNeed(int function, int first, int second, int most) throws IndexOutOfBoundsException {
        Function asker = existing(function);
        analysis.refresh();
        return isAtom(first, second, most) && asker.wants.has(Atoms.codeOf(first, second, most));
    }

    public int allGives(int function) throws IndexOutOfBoundsException {
        Function giver = existing(function);
        analysis.refresh();
        return giver.yields.size;
    }

    public boolean doesGive(int function, int first, int second, int most) throws IndexOutOfBoundsException {
        Function giver = existing(function);
        analysis.refresh();
        return isAtom(first, second, most) && giver.yields.has(Atoms.codeOf(first, second, most));
    }

    public boolean isInRing(int function) throws IndexOutOfBoundsException {
        Function owner = existing(function);
        return owner.comesTo(function);
    }

    public char run(int function, int first, int second, int third) throws IndexOutOfBoundsException, IllegalArgumentException, IllegalStateException {
        analysis.refresh();
        return runAsked(function, first, second, third, false);
    }

    public char runFew(int function, int first, int second, int third) throws IndexOutOfBoundsException, IllegalArgumentException, IllegalStateException {
        analysis.refresh();
        return runAsked(function, first, second, third, true);
    }

    public int result() throws NoSuchElementException {
        if (lastEnd != 'v') {
            throw new NoSuchElementException();
        }
        return lastValue;
    }

    public int checks() {
        return lastChecks;
    }

    public int steps() {
        return lastSteps;
    }

    public long allConditions() {
        analysis.refresh();
        return analysis.storedCount;
    }

    public float provedShare() throws ArithmeticException {
        analysis.refresh();
        if (analysis.storedCount == 0) {
            throw new ArithmeticException();
        }
        return (float) analysis.provedCount / (float) analysis.storedCount;
    }

    public double meanNeeded() throws ArithmeticException {
        analysis.refresh();
        if (analysis.provedCount == 0) {
            throw new ArithmeticException();
        }
        analysis.deepen();
        return (double) analysis.neededSum / (double) analysis.provedCount;
    }

    public boolean isSound() {
        analysis.refresh();
        analysis.deepen();
        return analysis.isAllSound;
    }

    private static boolean isSmall(int value) {
        return value >= -MOST_SMALL && value <= MOST_SMALL;
    }

    private static boolean isName(int name) {
        return name >= 0 && name < NAMES;
    }

    private static boolean isAtom(int first, int second, int most) {
        return first >= NOTHING && first <= RESULT && second >= NOTHING && second <= RESULT && isSmall(most);
    }

    private Function functionAt(int function) {
        return function >= 0 && function < functionCount && function < functions.length ? functions[function] : null;
    }

    private Function existing(int function) {
        Function asked = functionAt(function);
        if (asked == null) {
            throw new IndexOutOfBoundsException();
        }
        return asked;
    }

    private int tell(Atoms atoms, int code) {
        if (!atoms.isFound && !atoms.has(code) && atoms.size >= MOST_TOLD) {
            throw new IllegalStateException();
        }
        if (atoms.isFound) {
            atoms.isFound = false;
            atoms.size = 0;
        }
        atoms.insert(code);
        analysis.forget();
        return atoms.size;
    }

    private int leaveToFind(Atoms atoms) {
        int told = atoms.isFound ? 0 : atoms.size;
        atoms.isFound = true;
        atoms.size = 0;
        analysis.forget();
        return told;
    }

    /** Makes a term of the parts that stand in asked. */
    private int make(int kind, int detail, int detailToo, int count) {
        for (int i = 0; i < count && i < MOST_PARTS; i++) {
            if (!terms.has(asked[i])) {
                throw new IndexOutOfBoundsException();
            }
        }
        for (int i = 0; i < count && i < MOST_PARTS; i++) {
            boolean isTaken = terms.isTakenAt(asked[i]);
            for (int j = 0; j < i; j++) {
                isTaken = isTaken || asked[i] == asked[j];
            }
            if (isTaken) {
                throw new UnsupportedOperationException();
            }
        }
        if (terms.size >= MOST_TERMS) {
            throw new IllegalStateException();
        }
        return terms.add(kind, detail, detailToo, asked, count);
    }

    private Function faultless(int function) {
        Function owner = existing(function);
        if (owner.fault != '-') {
            throw new IllegalStateException();
        }
        return owner;
    }

    /** What is stored of a condition behind refresh, as Analysis packs it. */
    private int storedCondition(int function, int index) {
        Function owner = faultless(function);
        int place = owner.firstCondition + index;
        if (index < 0 || index >= owner.conditionCount || place < 0 || place >= analysis.stored.length) {
            throw new NoSuchElementException();
        }
        return analysis.stored[place];
    }

    private char runAsked(int function, int first, int second, int third, boolean isFew) {
        Function started = existing(function);
        asked[0] = first;
        asked[1] = second;
        asked[2] = third;
        for (int i = 0; i < started.parameters && i < MOST_PARAMETERS; i++) {
            if (!isSmall(asked[i]) || started.isListAt(i) && asked[i] < 0) {
                throw new IllegalArgumentException();
            }
        }
        if (!analysis.isRunnable(started)) {
            throw new IllegalStateException();
        }
        lastEnd = runner.execute(started, asked, isFew);
        lastValue = runner.value;
        lastChecks = runner.checkCount;
        lastSteps = runner.begun;
        return lastEnd;
    }

    /** All terms, each with its parts. */
    private static final class Terms {
        static final int NUMBER = 0;
        static final int NAME = 1;
        static final int PLUS = 2;
        static final int SUM = 3;
        static final int LET = 4;
        static final int CHOICE = 5;
        static final int CALL = 6;
        static final int EMPTY = 7;
        static final int AHEAD = 8;
        static final int MATCH = 9;
        static final int CLAIM = 10;

        final int[] kind = new int[MOST_TERMS];
        /** The number, the name, the function or the comparison of a term. */
        final int[] detail = new int[MOST_TERMS];
        /** The name of the rest, of a match. */
        final int[] detailToo = new int[MOST_TERMS];
        final int[] partCount = new int[MOST_TERMS];
        final int[] part = new int[MOST_PARTS * MOST_TERMS];
        final boolean[] isTaken = new boolean[MOST_TERMS];
        final boolean[] isList = new boolean[MOST_TERMS];
        /** Whether all that is to be proved at a call for what is needed, or at a claim, is proved on all ways. */
        final boolean[] isSafe = new boolean[MOST_TERMS];
        int size;

        boolean has(int term) {
            return term >= 0 && term < size && term < MOST_TERMS;
        }

        int add(int newKind, int newDetail, int newDetailToo, int[] parts, int count) {
            if (size < 0 || size >= MOST_TERMS) {
                return -1;
            }
            kind[size] = newKind;
            detail[size] = newDetail;
            detailToo[size] = newDetailToo;
            partCount[size] = count;
            for (int i = 0; i < count && i < MOST_PARTS && i < parts.length; i++) {
                part[MOST_PARTS * size + i] = parts[i];
                take(parts[i], true);
            }
            size++;
            return size - 1;
        }

        void take(int term, boolean isTakenNow) {
            if (term >= 0 && term < MOST_TERMS) {
                isTaken[term] = isTakenNow;
            }
        }

        boolean isTakenAt(int term) {
            return term >= 0 && term < MOST_TERMS && isTaken[term];
        }

        int kindAt(int term) {
            return term >= 0 && term < MOST_TERMS ? kind[term] : NUMBER;
        }

        int detailAt(int term) {
            return term >= 0 && term < MOST_TERMS ? detail[term] : 0;
        }

        int detailTooAt(int term) {
            return term >= 0 && term < MOST_TERMS ? detailToo[term] : 0;
        }

        int partsAt(int term) {
            return term >= 0 && term < MOST_TERMS ? partCount[term] : 0;
        }

        int partAt(int term, int index) {
            boolean isThere = term >= 0 && term < MOST_TERMS && index >= 0 && index < MOST_PARTS;
            return isThere ? part[MOST_PARTS * term + index] : -1;
        }

        boolean isListAt(int term) {
            return term >= 0 && term < MOST_TERMS && isList[term];
        }

        int sortOfPart(int term, int index) {
            boolean isThere = term >= 0 && term < MOST_TERMS && index >= 0 && index < MOST_PARTS;
            int asked = isThere ? part[MOST_PARTS * term + index] : -1;
            return asked >= 0 && asked < MOST_TERMS && isList[asked] ? Checker.LIST : Checker.NUMBER;
        }

        void setList(int term, boolean isListNow) {
            if (term >= 0 && term < MOST_TERMS) {
                isList[term] = isListNow;
            }
        }

        boolean isSafeAt(int term) {
            return term >= 0 && term < MOST_TERMS && isSafe[term];
        }

        void setAllSafe() {
            for (int i = 0; i < MOST_TERMS; i++) {
                isSafe[i] = true;
            }
        }

        void setUnsafe(int term) {
            if (term >= 0 && term < MOST_TERMS) {
                isSafe[term] = false;
            }
        }
    }

    /** Atoms in their order, each once. */
    private static final class Atoms {
        /** Eight patterns give at most six atoms each. */
        static final int ROOM = 48;
        static final int THINGS = 5;
        static final int NUMBERS = 256;

        final int[] code = new int[ROOM];
        final boolean[] isGone = new boolean[ROOM];
        int size;
        /** How many were looked at when it was last asked whether they are held. */
        int looked;
        /** Whether they are to be found, and not told. */
        boolean isFound;

        /** Codes are in the order of their atoms. */
        static int codeOf(int first, int second, int most) {
            return ((first + 1) * THINGS + second + 1) * NUMBERS + most + NUMBERS / 2;
        }

        int firstAt(int index) {
            return index >= 0 && index < ROOM ? code[index] / (THINGS * NUMBERS) - 1 : NOTHING;
        }

        int secondAt(int index) {
            return index >= 0 && index < ROOM ? code[index] / NUMBERS % THINGS - 1 : NOTHING;
        }

        int mostAt(int index) {
            return index >= 0 && index < ROOM ? code[index] % NUMBERS - NUMBERS / 2 : 0;
        }

        boolean has(int asked) {
            for (int i = 0; i < size && i < ROOM; i++) {
                if (code[i] == asked) {
                    return true;
                }
            }
            return false;
        }

        void insert(int added) {
            if (size < 0 || size >= ROOM || has(added)) {
                return;
            }
            int at = size;
            while (at > 0 && code[at - 1] > added) {
                code[at] = code[at - 1];
                at--;
            }
            code[at] = added;
            isGone[size] = false;
            size++;
        }

        /** Whether they hold for the parameters and the result that stand from a place on; up to the first not. */
        boolean areHeld(int[] given, int from) {
            looked = 0;
            for (int i = 0; i < size && i < ROOM; i++) {
                looked++;
                int first = code[i] / (THINGS * NUMBERS) - 1;
                int second = code[i] / NUMBERS % THINGS - 1;
                boolean isFirst = first >= 0 && from >= 0 && from + first < given.length;
                boolean isSecond = second >= 0 && from >= 0 && from + second < given.length;
                int less = (isFirst ? given[from + first] : 0) - (isSecond ? given[from + second] : 0);
                if (less > code[i] % NUMBERS - NUMBERS / 2) {
                    return false;
                }
            }
            return true;
        }

        boolean isGoneAt(int index) {
            return index >= 0 && index < ROOM && isGone[index];
        }

        void drop(int index) {
            if (index >= 0 && index < ROOM) {
                isGone[index] = true;
            }
        }

        /** Takes away what was dropped, and tells whether there was something. */
        boolean sweep() {
            int left = 0;
            int before = size;
            for (int i = 0; i < before && i < ROOM; i++) {
                if (!isGone[i]) {
                    code[left] = code[i];
                    left++;
                }
                isGone[i] = false;
            }
            size = left;
            return left < before;
        }
    }

    private static final class Function {
        final int parameters;
        final int lists;
        final boolean isList;
        final Atoms wants = new Atoms();
        final Atoms yields = new Atoms();
        final int[] place = new int[2];
        final int[] placePlus = new int[2];
        int places;
        boolean isLazy;
        int body = -1;
        char fault = 'b';
        int faultAt;
        int wayCount;
        /** The functions that its body calls, as a sum of powers of 2. */
        int calls;
        /** The functions that it can come to by calls in bodies without errors. */
        int reach;
        /** Whether all that it gives is proved at the end on all ways. */
        boolean isSafe;
        int firstCondition;
        int conditionCount;

        Function(int parameters, int lists, boolean isList) {
            this.parameters = parameters;
            this.lists = lists;
            this.isList = isList;
        }

        boolean hasParameter(int parameter) {
            return parameter >= 0 && parameter < parameters;
        }

        boolean hasThing(int thing) {
            return thing == NOTHING || thing == RESULT || hasParameter(thing);
        }

        boolean isListAt(int parameter) {
            return parameter >= 0 && parameter < parameters && (lists >> parameter & 1) == 1;
        }

        boolean comesTo(int function) {
            return (reach >> function & 1) == 1;
        }
    }

    /** What is known of the differences of things: for each two, the most that one is above the other. */
    private static final class Bounds {
        static final int SHIFT = 7;
        static final int WIDTH = 1 << SHIFT;
        /** Stands for no bound; far above all sums of bounds. */
        static final int FAR = 1 << 28;

        final int[] most = new int[WIDTH * WIDTH];
        int things;
        boolean isBroken;

        void clear(int count) {
            things = 0;
            isBroken = false;
            grow(count);
        }

        void grow(int count) {
            for (int thing = things; thing < count && thing < WIDTH; thing++) {
                for (int other = 0; other < thing; other++) {
                    most[(thing << SHIFT) + other] = FAR;
                    most[(other << SHIFT) + thing] = FAR;
                }
                most[(thing << SHIFT) + thing] = 0;
                things = thing + 1;
            }
        }

        void copy(Bounds other) {
            things = other.things;
            isBroken = other.isBroken;
            for (int row = 0; row < things && row < WIDTH; row++) {
                System.arraycopy(other.most, row << SHIFT, most, row << SHIFT, things < WIDTH ? things : WIDTH);
            }
        }

        int at(int first, int second) {
            return first >= 0 && first < WIDTH && second >= 0 && second < WIDTH ? most[(first << SHIFT) + second] : FAR;
        }

        /** Learns that the first thing less the second one is at most a number, and all that follows. */
        void add(int first, int second, int bound) {
            int count = things < WIDTH ? things : WIDTH;
            if (first < 0 || first >= count || second < 0 || second >= count || isBroken) {
                return;
            }
            if (bound >= most[(first << SHIFT) + second]) {
                return;
            }
            if (most[(second << SHIFT) + first] + bound < 0) {
                isBroken = true;
                return;
            }
            for (int i = 0; i < count; i++) {
                int ahead = most[(i << SHIFT) + first];
                if (ahead < FAR) {
                    for (int j = 0; j < count; j++) {
                        int behind = most[(second << SHIFT) + j];
                        if (behind < FAR && ahead + bound + behind < most[(i << SHIFT) + j]) {
                            most[(i << SHIFT) + j] = ahead + bound + behind;
                        }
                    }
                }
            }
        }
    }

    /** The facts of a way in their order. A value of a way is one number: its thing, and what is added to it. */
    private static final class Facts {
        /** Not even 39 calls with 48 atoms each, and 79 with 8 ahead of them, come to so many. */
        static final int ROOM = 3000;
        static final int THING_SHIFT = 16;
        static final int PLUS_MASK = 65535;
        static final int PLUS_ZERO = 32768;

        final int[] first = new int[ROOM];
        final int[] second = new int[ROOM];
        final int[] most = new int[ROOM];
        /** Whether a fact is that the difference is not the number, and not that it is at most the number. */
        final boolean[] isUnlike = new boolean[ROOM];
        final Bounds bounds = new Bounds();
        int size;
        int things;
        int learned;
        int unlikes;

        /** The value of nothing. */
        static final int ZERO = PLUS_ZERO;

        static int valueOf(int thing) {
            return (thing << THING_SHIFT) + PLUS_ZERO;
        }

        void reset(int count) {
            size = 0;
            learned = 0;
            unlikes = 0;
            things = count;
            bounds.clear(count);
        }

        int newThing() {
            if (things < Bounds.WIDTH) {
                things++;
            }
            return (things - 1 << THING_SHIFT) + PLUS_ZERO;
        }

        void append(int firstValue, int secondValue, int bound, boolean isUnlikeToo) {
            if (size < 0 || size >= ROOM) {
                return;
            }
            first[size] = firstValue >> THING_SHIFT;
            second[size] = secondValue >> THING_SHIFT;
            most[size] = bound - (firstValue & PLUS_MASK) + (secondValue & PLUS_MASK);
            isUnlike[size] = isUnlikeToo;
            size++;
        }

        int firstAt(int fact) {
            return fact >= 0 && fact < ROOM ? first[fact] : 0;
        }

        int secondAt(int fact) {
            return fact >= 0 && fact < ROOM ? second[fact] : 0;
        }

        int mostAt(int fact) {
            return fact >= 0 && fact < ROOM ? most[fact] : 0;
        }

        /** Brings the bounds up to all facts; apart from appending, so that a condition can come between. */
        void learn() {
            bounds.grow(things);
            while (learned >= 0 && learned < size && learned < ROOM) {
                if (isUnlike[learned]) {
                    unlikes++;
                } else {
                    bounds.add(first[learned], second[learned], most[learned]);
                }
                learned++;
            }
        }
    }

    /**
     * Proves one condition from the facts. The condition is held by the cases in which it does not hold, each of up to
     * three bounds: it is proved if none of them can be together with the facts.
     */
    private static final class Prover {
        static final int MOST_CASES = 4;
        static final int MOST_EDGES = 3;
        static final int FARTHEST = 600;
        static final int ALL_APART = -1;
        static final int BROKEN = -2;

        final Facts facts;
        final Bounds part = new Bounds();
        final Bounds start = new Bounds();
        final Bounds work = new Bounds();
        final int[] edges = new int[MOST_CASES];
        final int[] edgeFirst = new int[MOST_CASES * MOST_EDGES];
        final int[] edgeSecond = new int[MOST_CASES * MOST_EDGES];
        final int[] edgeMost = new int[MOST_CASES * MOST_EDGES];
        /** The facts in play that a difference is not a number. */
        final int[] apart = new int[MOST_TERMS];
        final int[] picked = new int[MOST_TERMS];
        final boolean[] isAbove = new boolean[MOST_TERMS];
        final int[] needed = new int[Facts.ROOM];
        final int[] chosen = new int[MOST_PARAMETERS];
        final int[] lowest = new int[MOST_CASES];
        final int[] highest = new int[MOST_CASES];
        int cases;
        int aparts;
        int neededCount;
        /** Whether the condition can not be told, so that it is neither proved nor has examples. */
        boolean isHopeless;

        Prover(Facts facts) {
            this.facts = facts;
        }

        void forget() {
            cases = 0;
            isHopeless = false;
        }

        void newCase() {
            if (cases >= 0 && cases < MOST_CASES) {
                edges[cases] = 0;
                cases++;
            }
        }

        /** Adds to the last case that a value less another one is at most a number. */
        void addEdge(int firstValue, int secondValue, int most) {
            int last = cases - 1;
            if (last < 0 || last >= MOST_CASES || edges[last] >= MOST_EDGES) {
                return;
            }
            int at = MOST_EDGES * last + edges[last];
            edgeFirst[at] = firstValue >> Facts.THING_SHIFT;
            edgeSecond[at] = secondValue >> Facts.THING_SHIFT;
            edgeMost[at] = most - (firstValue & Facts.PLUS_MASK) + (secondValue & Facts.PLUS_MASK);
            edges[last]++;
        }

        /** Whether the condition holds wherever all facts hold. */
        boolean holds() {
            gatherApart();
            return !isHopeless && followsFrom(facts.bounds);
        }

        private void gatherApart() {
            aparts = 0;
            if (facts.unlikes > 0) {
                for (int i = 0; i < facts.size && i < Facts.ROOM; i++) {
                    if (facts.isUnlike[i] && aparts < apart.length) {
                        apart[aparts] = i;
                        aparts++;
                    }
                }
            }
        }

        private boolean followsFrom(Bounds from) {
            for (int i = 0; i < cases && i < MOST_CASES && !from.isBroken; i++) {
                int at = MOST_EDGES * i;
                // a bound alone can not be if it makes a ring of bounds below 0
                if (edges[i] == 1 && from.at(edgeSecond[at], edgeFirst[at]) + edgeMost[at] < 0) {
                    continue;
                }
                if (edges[i] == 1 && aparts == 0) {
                    return false;
                }
                startCase(from, i, 0);
                if (canDiffer()) {
                    return false;
                }
            }
            return true;
        }

        /** Lets start be bounds with a case, and with the chosen numbers of the first parameters. */
        private void startCase(Bounds from, int which, int fixed) {
            start.copy(from);
            if (which < 0 || which >= MOST_CASES) {
                return;
            }
            for (int i = 0; i < edges[which] && i < MOST_EDGES; i++) {
                int at = MOST_EDGES * which + i;
                start.add(edgeFirst[at], edgeSecond[at], edgeMost[at]);
            }
            for (int i = 0; i < fixed && i < MOST_PARAMETERS; i++) {
                start.add(i + 1, 0, chosen[i]);
                start.add(0, i + 1, -chosen[i]);
            }
        }

        /** Whether there are numbers within the bounds of start for which all that is apart differs. */
        private boolean canDiffer() {
            if (start.isBroken || aparts == 0) {
                return !start.isBroken;
            }
            int depth = 0;
            for (int turn = 0; turn < MANY; turn++) {
                work.copy(start);
                for (int i = 0; i < depth && i < picked.length; i++) {
                    pushApart(picked[i], isAbove[i]);
                }
                int pick = settle();
                if (pick == ALL_APART) {
                    return true;
                }
                if (pick >= 0 && depth < picked.length) {
                    picked[depth] = pick;
                    isAbove[depth] = false;
                    depth++;
                } else {
                    while (depth > 0 && isAbove[depth - 1]) {
                        depth--;
                    }
                    if (depth == 0) {
                        return false;
                    }
                    isAbove[depth - 1] = true;
                }
            }
            return true;
        }

        private void pushApart(int fact, boolean isAboveIt) {
            if (fact < 0 || fact >= Facts.ROOM) {
                return;
            }
            if (isAboveIt) {
                work.add(facts.second[fact], facts.first[fact], -facts.most[fact] - 1);
            } else {
                work.add(facts.first[fact], facts.second[fact], facts.most[fact] - 1);
            }
        }

        /**
         * Tightens the bounds of work by what is apart at their ends. Answers BROKEN if nothing is left, or a fact on
         * whose two sides the search has to part, or ALL_APART: where a difference has no bound on one side, the things
         * can always be moved so far from each other that they differ.
         */
        private int settle() {
            for (int round = 0; round <= aparts; round++) {
                boolean isChanged = false;
                int pick = ALL_APART;
                int least = Bounds.FAR;
                for (int i = 0; i < aparts && i < apart.length && !work.isBroken; i++) {
                    int fact = apart[i];
                    int first = facts.firstAt(fact);
                    int second = facts.secondAt(fact);
                    int number = facts.mostAt(fact);
                    int up = work.at(first, second);
                    int down = work.at(second, first);
                    if (up == number) {
                        work.add(first, second, number - 1);
                        isChanged = true;
                    } else if (down == -number) {
                        work.add(second, first, -number - 1);
                        isChanged = true;
                    } else if (up > number && down > -number && up < Bounds.FAR && down < Bounds.FAR
                            && up + down < least) {
                        least = up + down;
                        pick = fact;
                    }
                }
                if (work.isBroken) {
                    return BROKEN;
                }
                if (!isChanged) {
                    return pick;
                }
            }
            return BROKEN;
        }

        /**
         * Finds the facts that a proved condition needs. Leaving out, in order, what is not needed keeps the last fact
         * from which all later ones are enough, then the last one behind it so together with it, and so on.
         */
        void findNeeded() {
            neededCount = 0;
            int low = 0;
            for (int round = 0; round <= facts.size && !holdsFrom(facts.size); round++) {
                int enough = low;
                int few = facts.size;
                for (int halving = 0; halving < Facts.ROOM && few - enough > 1; halving++) {
                    int middle = (enough + few) / 2;
                    if (holdsFrom(middle)) {
                        enough = middle;
                    } else {
                        few = middle;
                    }
                }
                if (neededCount < needed.length) {
                    needed[neededCount] = enough;
                    neededCount++;
                }
                low = enough + 1;
            }
        }

        boolean holdsFromNeeded() {
            return holdsFrom(facts.size);
        }

        /** Whether the condition holds by the needed facts so far and all from a place on. */
        private boolean holdsFrom(int from) {
            part.clear(facts.things);
            aparts = 0;
            for (int i = 0; i < neededCount && i < needed.length; i++) {
                include(needed[i]);
            }
            for (int i = from; i < facts.size; i++) {
                include(i);
            }
            return followsFrom(part);
        }

        private void include(int fact) {
            if (fact < 0 || fact >= Facts.ROOM) {
                return;
            }
            if (!facts.isUnlike[fact]) {
                part.add(facts.first[fact], facts.second[fact], facts.most[fact]);
            } else if (aparts < apart.length) {
                apart[aparts] = fact;
                aparts++;
            }
        }

        /** Finds numbers for the parameters, with which the facts can hold and the condition not. */
        boolean findExample(int parameters) {
            if (isHopeless) {
                return false;
            }
            gatherApart();
            for (int parameter = 0; parameter < parameters && parameter < MOST_PARAMETERS; parameter++) {
                findRanges(parameter);
                boolean isMet = false;
                for (int number = 0; number <= FARTHEST && !isMet; number++) {
                    isMet = fits(parameter, number) || number > 0 && fits(parameter, -number);
                }
                if (!isMet) {
                    return false;
                }
            }
            return true;
        }

        /** The range of a parameter in each case, so that no number outside it is tried. */
        private void findRanges(int parameter) {
            for (int i = 0; i < cases && i < MOST_CASES; i++) {
                startCase(facts.bounds, i, parameter);
                lowest[i] = start.isBroken ? 1 : -start.at(0, parameter + 1);
                highest[i] = start.isBroken ? 0 : start.at(parameter + 1, 0);
            }
        }

        private boolean fits(int parameter, int number) {
            if (parameter < 0 || parameter >= MOST_PARAMETERS) {
                return false;
            }
            chosen[parameter] = number;
            for (int i = 0; i < cases && i < MOST_CASES; i++) {
                if (number >= lowest[i] && number <= highest[i]) {
                    startCase(facts.bounds, i, parameter + 1);
                    if (canDiffer()) {
                        return true;
                    }
                }
            }
            return false;
        }

        int chosenAt(int parameter) {
            return parameter >= 0 && parameter < MOST_PARAMETERS ? chosen[parameter] : 0;
        }

        /** Whether the example breaks its condition while all facts can hold. */
        boolean isBroken(int parameters) {
            gatherApart();
            for (int i = 0; i < cases; i++) {
                startCase(facts.bounds, i, parameters);
                if (canDiffer()) {
                    return true;
                }
            }
            return false;
        }
    }

    /** Goes through a body part by part, with a row of open terms in place of calls within calls. */
    private abstract static class Pass {
        /** A run begins at most so many terms, and no way through a body has so many. */
        static final int ROOM = 400;

        final Terms terms;
        final Function[] functions;
        final int[] open = new int[ROOM];
        /** The part of each open term that comes next. */
        final int[] next = new int[ROOM];
        /** What the names that an open term binds were outside of it: its first name, and the rest of a match. */
        final int[] outer = new int[ROOM];
        final int[] outerRest = new int[ROOM];
        final int[] values = new int[ROOM];
        final int[] names;
        int namesFrom;
        int depth;
        int height;
        int begun;
        boolean isOver;

        Pass(Terms terms, Function[] functions, int bodies) {
            this.terms = terms;
            this.functions = functions;
            names = new int[bodies > 0 ? NAMES * bodies : 0];
        }

        /** What is to be done ahead of a part; answers the part that begins then, or -1 for none yet. */
        abstract int turn(int term, int part);

        /** What is to be done behind the last part of a term. */
        abstract void close(int term);

        final void clear() {
            depth = 0;
            height = 0;
            begun = 0;
            namesFrom = 0;
            isOver = false;
        }

        final void begin(int term) {
            if (begun >= ROOM || depth < 0 || depth >= ROOM) {
                isOver = true;
                return;
            }
            begun++;
            open[depth] = term;
            next[depth] = 0;
            depth++;
        }

        final void advance() {
            int top = depth - 1;
            if (top < 0 || top >= ROOM) {
                return;
            }
            int term = open[top];
            int part = turn(term, next[top]);
            if (isOver || part < 0) {
                return;
            }
            if (part < terms.partsAt(term)) {
                next[top] = part + 1;
                begin(terms.partAt(term, part));
            } else {
                close(term);
                depth--;
            }
        }

        final void push(int value) {
            if (height >= 0 && height < ROOM) {
                values[height] = value;
                height++;
            }
        }

        final int pop() {
            if (height <= 0 || height > ROOM) {
                return 0;
            }
            height--;
            return values[height];
        }

        final int nameAt(int name) {
            int at = namesFrom + name;
            return name >= 0 && name < NAMES && at >= 0 && at < names.length ? names[at] : 0;
        }

        final void setName(int name, int value) {
            int at = namesFrom + name;
            if (name >= 0 && name < NAMES && at >= 0 && at < names.length) {
                names[at] = value;
            }
        }

        /** Keeps what a name is outside of the term that binds it, and binds it. */
        final void bind(int name, int value, boolean isRest) {
            int at = namesFrom + name;
            int top = depth - 1;
            if (name >= 0 && name < NAMES && at >= 0 && at < names.length && top >= 0 && top < ROOM) {
                if (isRest) {
                    outerRest[top] = names[at];
                } else {
                    outer[top] = names[at];
                }
                names[at] = value;
            }
        }

        final void unbind(int name, boolean isRest) {
            int at = namesFrom + name;
            int top = depth - 1;
            if (name >= 0 && name < NAMES && at >= 0 && at < names.length && top >= 0 && top < ROOM) {
                names[at] = isRest ? outerRest[top] : outer[top];
            }
        }

        /** Only the term for a list that is not empty, which is the last part, has bound names. */
        final void unbindMatch(int term) {
            int top = depth - 1;
            if (top >= 0 && top < ROOM && next[top] == terms.partsAt(term)) {
                unbind(terms.detailAt(term), false);
                unbind(terms.detailTooAt(term), true);
            }
        }

        final Function functionOf(int term) {
            int function = term >= 0 && term < MOST_TERMS ? terms.detail[term] : -1;
            return function >= 0 && function < functions.length ? functions[function] : null;
        }
    }

    /** Looks for the first error of a body, and counts its ways. */
    private static final class Checker extends Pass {
        static final int NUMBER = 0;
        static final int LIST = 1;
        static final int NONE = 2;
        static final int TOO_MANY = MOST_WAYS + 1;

        final int[] waysOf = new int[MOST_TERMS];
        char fault;
        int faultAt;
        int called;

        Checker(Terms terms, Function[] functions) {
            super(terms, functions, 1);
        }

        void check(Function function) {
            clear();
            fault = '-';
            called = 0;
            for (int i = 0; i < NAMES; i++) {
                setName(i, !function.hasParameter(i) ? NONE : function.isListAt(i) ? LIST : NUMBER);
            }
            begin(function.body);
            for (int i = 0; i < MANY && depth > 0 && !isOver; i++) {
                advance();
            }
            if (terms.isListAt(function.body) != function.isList) {
                fail('t', function.body);
            }
            int count = waysAt(function.body);
            if (count > MOST_WAYS) {
                fail('s', function.body);
            }
            function.fault = fault;
            function.faultAt = faultAt;
            function.wayCount = count;
            function.calls = called;
        }

        /** Only the first error counts. */
        private void fail(char kind, int term) {
            if (!isOver) {
                fault = kind;
                faultAt = term;
                isOver = true;
            }
        }

        private int waysAt(int term) {
            return term >= 0 && term < MOST_TERMS ? waysOf[term] : 0;
        }

        int turn(int term, int part) {
            int kind = terms.kindAt(term);
            if (kind == Terms.LET && part == 1) {
                bind(terms.detailAt(term), terms.sortOfPart(term, 0), false);
            } else if (kind == Terms.MATCH && part == 2) {
                bind(terms.detailAt(term), NUMBER, false);
                bind(terms.detailTooAt(term), LIST, true);
            }
            return part;
        }

        void close(int term) {
            int kind = terms.kindAt(term);
            int sort = sortOf(term);
            if (kind == Terms.NAME && sort == NONE) {
                fail('v', term);
            } else if (kind == Terms.CALL && sort == NONE) {
                fail('c', term);
            }
            for (int i = 0; i < terms.partsAt(term) && i < MOST_PARTS; i++) {
                int wanted = sortWanted(term, i);
                if (wanted != NONE && wanted != terms.sortOfPart(term, i)) {
                    fail('t', terms.partAt(term, i));
                }
            }
            terms.setList(term, sort == LIST);
            if (kind == Terms.CALL) {
                called |= 1 << terms.detailAt(term);
            } else if (kind == Terms.LET) {
                unbind(terms.detailAt(term), false);
            } else if (kind == Terms.MATCH) {
                unbindMatch(term);
            }
            countWays(term);
        }

        /** What a term is, if its parts are as they have to be; NONE for a name or a call with an error. */
        private int sortOf(int term) {
            switch (terms.kindAt(term)) {
                case Terms.NAME:
                    return nameAt(terms.detailAt(term));
                case Terms.LET:
                case Terms.MATCH:
                    return terms.sortOfPart(term, 1);
                case Terms.CHOICE:
                case Terms.CLAIM:
                    return terms.sortOfPart(term, 2);
                case Terms.CALL:
                    Function callee = functionOf(term);
                    boolean isWrong = callee == null || callee.parameters != terms.partsAt(term);
                    return isWrong ? NONE : callee.isList ? LIST : NUMBER;
                case Terms.EMPTY:
                case Terms.AHEAD:
                    return LIST;
                default:
                    return NUMBER;
            }
        }

        /** What a part has to be; NONE if it may be both. */
        private int sortWanted(int term, int part) {
            switch (terms.kindAt(term)) {
                case Terms.PLUS:
                case Terms.SUM:
                    return NUMBER;
                case Terms.CHOICE:
                    return part == 3 ? terms.sortOfPart(term, 2) : NONE;
                case Terms.CALL:
                    Function callee = functionOf(term);
                    return callee != null && callee.isListAt(part) ? LIST : NUMBER;
                case Terms.AHEAD:
                    return part == 1 ? LIST : NUMBER;
                case Terms.MATCH:
                    return part == 0 ? LIST : part == 2 ? terms.sortOfPart(term, 1) : NONE;
                default:
                    return NONE;
            }
        }

        private void countWays(int term) {
            int kind = terms.kindAt(term);
            int straight = kind == Terms.CHOICE ? 2 : kind == Terms.MATCH ? 1 : terms.partsAt(term);
            int count = 1;
            for (int i = 0; i < straight && i < MOST_PARTS; i++) {
                count = Math.min(TOO_MANY, count * waysAt(terms.partAt(term, i)));
            }
            if (kind == Terms.CHOICE || kind == Terms.MATCH) {
                count *= waysAt(terms.partAt(term, straight)) + waysAt(terms.partAt(term, straight + 1));
            }
            if (term >= 0 && term < MOST_TERMS) {
                waysOf[term] = Math.min(TOO_MANY, count);
            }
        }
    }

    /** Goes along all ways of a body, and stops at each thing that is to be proved, told or found. */
    private static final class Walker extends Pass {
        static final int WITHIN = 0;
        static final int CALLED = 1;
        static final int CLAIMED = 2;
        static final int ENDED = 3;

        final Facts facts;
        final Prover prover;
        final boolean[] isSecond = new boolean[MOST_TERMS];
        /** The parameters and the result of what is called or ended, or both sides of a claim. */
        final int[] given = new int[RESULT + 1];
        Function own;
        int ownNumber;
        int decided;
        int partings;
        /** What comes ahead of so many partings has come on an earlier way. */
        int freshFrom;
        int stage;
        int stageTerm;
        int taken;
        char kind;
        /** The atoms of which the condition is one, if it is one of atoms. */
        Atoms atoms;
        int atomAt;

        Walker(Terms terms, Function[] functions, Facts facts, Prover prover) {
            super(terms, functions, 1);
            this.facts = facts;
            this.prover = prover;
        }

        void start(int number) {
            isOver = true;
            if (number >= 0 && number < functions.length && functions[number] != null) {
                own = functions[number];
                ownNumber = number;
                decided = 0;
                freshFrom = 0;
                startWay();
            }
        }

        private void startWay() {
            clear();
            partings = 0;
            stage = WITHIN;
            facts.reset(own.parameters + 1);
            for (int i = 0; i < own.parameters && i < MOST_PARAMETERS; i++) {
                given[i] = Facts.valueOf(i + 1);
                setName(i, given[i]);
                if (own.isListAt(i)) {
                    facts.append(Facts.ZERO, given[i], 0, false);
                }
            }
            appendAtoms(own.wants);
            begin(own.body);
        }

        /** Goes on to the next condition; false if there is none any more. */
        boolean goOn() {
            for (int i = 0; i < MANY && !isOver; i++) {
                facts.learn();
                if (stage == WITHIN && depth > 0) {
                    advance();
                } else if (stage == WITHIN) {
                    reachEnd();
                } else if (partings >= freshFrom && take()) {
                    return true;
                } else if (stage != ENDED) {
                    leaveStage();
                } else if (turnToNextWay()) {
                    startWay();
                } else {
                    isOver = true;
                }
            }
            return false;
        }

        /** Whether the condition is one of atoms that are to be found. */
        boolean isFound() {
            return atoms != null && atoms.isFound;
        }

        private void reachEnd() {
            given[RESULT] = pop();
            for (int i = 0; i < own.parameters && i < MOST_PARAMETERS; i++) {
                given[i] = Facts.valueOf(i + 1);
            }
            enter(ENDED, own.body);
        }

        private void enter(int newStage, int term) {
            stage = newStage;
            stageTerm = term;
            taken = 0;
        }

        /** Takes the next condition of a stage, if there is one more. */
        private boolean take() {
            atoms = null;
            if (stage == ENDED) {
                return takeAtom('e', own.yields);
            }
            if (stage == CLAIMED) {
                return takeClaim();
            }
            Function callee = functionOf(stageTerm);
            return callee != null && (takeAtom('p', callee.wants) || takeMetric(callee));
        }

        private boolean takeAtom(char atomKind, Atoms from) {
            if (taken >= from.size) {
                return false;
            }
            kind = atomKind;
            atoms = from;
            atomAt = taken;
            taken++;
            prover.forget();
            prover.newCase();
            prover.addEdge(givenAt(from.secondAt(atomAt)), givenAt(from.firstAt(atomAt)), -from.mostAt(atomAt) - 1);
            return true;
        }

        private boolean takeClaim() {
            kind = 'a';
            taken++;
            prover.forget();
            prover.newCase();
            prover.addEdge(given[1], given[0], -terms.detailAt(stageTerm) - 1);
            return taken == 1;
        }

        private int givenAt(int thing) {
            return thing >= 0 && thing < given.length ? given[thing] : Facts.ZERO;
        }

        private boolean takeMetric(Function callee) {
            int number = terms.detailAt(stageTerm);
            boolean isRing = number == ownNumber || callee.comesTo(ownNumber);
            if (taken > callee.wants.size || !isRing || own.isLazy || callee.isLazy) {
                return false;
            }
            taken++;
            kind = 'm';
            prover.forget();
            prover.isHopeless = own.places == 0 || own.places != callee.places;
            if (!prover.isHopeless) {
                tellMetric(callee);
            }
            return true;
        }

        /** It does not get less if the first place grows, or is below 0, or stays and the second one does not do so. */
        private void tellMetric(Function callee) {
            int calling = Facts.valueOf(own.place[0] + 1) + own.placePlus[0];
            int called = givenAt(callee.place[0]) + callee.placePlus[0];
            boolean isOne = own.places == 1;
            prover.newCase();
            prover.addEdge(calling, called, isOne ? 0 : -1);
            prover.newCase();
            prover.addEdge(called, Facts.ZERO, -1);
            if (isOne) {
                return;
            }
            prover.addEdge(called, calling, -1);
            int callingToo = Facts.valueOf(own.place[1] + 1) + own.placePlus[1];
            int calledToo = givenAt(callee.place[1]) + callee.placePlus[1];
            prover.newCase();
            prover.addEdge(called, calling, 0);
            prover.addEdge(calling, called, 0);
            prover.addEdge(callingToo, calledToo, 0);
            prover.newCase();
            prover.addEdge(called, calling, 0);
            prover.addEdge(calling, called, 0);
            prover.addEdge(calledToo, Facts.ZERO, -1);
        }

        /** Behind the conditions of a call or a claim come its facts. */
        private void leaveStage() {
            Function callee = stage == CALLED ? functionOf(stageTerm) : null;
            if (stage == CLAIMED) {
                facts.append(given[0], given[1], terms.detailAt(stageTerm), false);
            } else if (callee != null) {
                if (callee.isList) {
                    facts.append(Facts.ZERO, given[RESULT], 0, false);
                }
                appendAtoms(callee.yields);
            }
            stage = WITHIN;
        }

        private void appendAtoms(Atoms added) {
            for (int i = 0; i < added.size; i++) {
                facts.append(givenAt(added.firstAt(i)), givenAt(added.secondAt(i)), added.mostAt(i), false);
            }
        }

        private boolean turnToNextWay() {
            int last = decided - 1;
            while (last >= 0 && last < isSecond.length && isSecond[last]) {
                last--;
            }
            if (last < 0 || last >= isSecond.length) {
                return false;
            }
            isSecond[last] = true;
            decided = last + 1;
            freshFrom = decided;
            return true;
        }

        /** At a parting: the way goes on as it is decided, or first to the first term. */
        private boolean goesSecond() {
            int at = partings;
            partings++;
            if (at < 0 || at >= isSecond.length) {
                return false;
            }
            if (at >= decided) {
                isSecond[at] = false;
                decided = at + 1;
            }
            return isSecond[at];
        }

        int turn(int term, int part) {
            switch (terms.kindAt(term)) {
                case Terms.LET:
                    if (part == 1) {
                        bind(terms.detailAt(term), pop(), false);
                    }
                    return part;
                case Terms.CHOICE:
                    return part < 2 ? part : part == 2 ? partChoice(term) : MOST_PARTS;
                case Terms.MATCH:
                    return part < 1 ? part : part == 1 ? partMatch(term) : MOST_PARTS;
                case Terms.CLAIM:
                    if (part == 2) {
                        given[1] = pop();
                        given[0] = pop();
                        enter(CLAIMED, term);
                    }
                    return part;
                default:
                    return part;
            }
        }

        private int partChoice(int term) {
            int second = pop();
            int first = pop();
            boolean isEqual = terms.detailAt(term) == '=';
            if (goesSecond()) {
                facts.append(isEqual ? first : second, isEqual ? second : first, 0, isEqual);
                return 3;
            }
            facts.append(first, second, isEqual ? 0 : -1, false);
            if (isEqual) {
                facts.append(second, first, 0, false);
            }
            return 2;
        }

        private int partMatch(int term) {
            int list = pop();
            if (goesSecond()) {
                facts.append(Facts.ZERO, list, -1, false);
                bind(terms.detailAt(term), facts.newThing(), false);
                bind(terms.detailTooAt(term), list - 1, true);
                return 2;
            }
            facts.append(list, Facts.ZERO, 0, false);
            return 1;
        }

        void close(int term) {
            int detail = terms.detailAt(term);
            switch (terms.kindAt(term)) {
                case Terms.NUMBER:
                    push(Facts.ZERO + detail);
                    break;
                case Terms.NAME:
                    push(nameAt(detail));
                    break;
                case Terms.PLUS:
                    push(pop() + detail);
                    break;
                case Terms.SUM:
                    closePair(facts.newThing());
                    break;
                case Terms.LET:
                    unbind(detail, false);
                    break;
                case Terms.CALL:
                    closeCall(term);
                    break;
                case Terms.EMPTY:
                    push(Facts.ZERO);
                    break;
                case Terms.AHEAD:
                    int rest = pop();
                    push(rest);
                    closePair(rest + 1);
                    break;
                case Terms.MATCH:
                    unbindMatch(term);
                    break;
                default:
                    break;
            }
        }

        private void closePair(int value) {
            pop();
            pop();
            push(value);
        }

        private void closeCall(int term) {
            for (int i = Math.min(terms.partsAt(term), MOST_PARAMETERS) - 1; i >= 0; i--) {
                given[i] = pop();
            }
            given[RESULT] = facts.newThing();
            push(given[RESULT]);
            enter(CALLED, term);
        }
    }

    /** Runs functions. A list is the number of its first cell; the cells 0 to 600 are the lists of so many zeros. */
    private static final class Runner extends Pass {
        /** The function that is run first, a call within 30 other ones, and these. */
        static final int MOST_CALLS = 32;
        static final int ZEROS = 601;
        static final int CELLS = ZEROS + ROOM;
        static final int MOST_MADE = 1000000;

        final int[] cellFirst = new int[CELLS];
        final int[] cellRest = new int[CELLS];
        final int[] cellLength = new int[CELLS];
        /** The parameters and the result of each open call, a list as its length. */
        final int[] given = new int[MOST_CALLS * (RESULT + 1)];
        int cells;
        int calls;
        int checkCount;
        /** How the run ended: with the limits, if nothing else. */
        char end;
        int value;
        boolean isFew;

        Runner(Terms terms, Function[] functions) {
            super(terms, functions, MOST_CALLS);
            for (int i = 1; i < ZEROS; i++) {
                cellRest[i] = i - 1;
                cellLength[i] = i;
            }
        }

        char execute(Function function, int[] numbers, boolean isFewNow) {
            clear();
            isFew = isFewNow;
            end = 'l';
            value = 0;
            calls = 0;
            checkCount = 0;
            cells = ZEROS;
            for (int i = 0; i < function.parameters && i < numbers.length; i++) {
                push(numbers[i]);
            }
            openCall(function);
            boolean isHeld = function.wants.areHeld(given, 0);
            checkCount += function.wants.looked;
            if (isHeld) {
                begin(function.body);
            } else {
                finish('p');
            }
            for (int i = 0; i < MANY && depth > 0 && !isOver; i++) {
                advance();
            }
            if (!isOver) {
                leaveCall(function);
            }
            if (!isOver) {
                value = measure(pop(), function.isList);
                finish('v');
            }
            return end;
        }

        private void finish(char newEnd) {
            end = newEnd;
            isOver = true;
        }

        private int measure(int content, boolean isList) {
            return isList && content >= 0 && content < CELLS ? cellLength[content] : content;
        }

        /** Takes the parameters from the values. */
        private void openCall(Function function) {
            namesFrom = NAMES * calls;
            int from = (RESULT + 1) * calls;
            calls++;
            for (int i = function.parameters - 1; i >= 0; i--) {
                int content = pop();
                setName(i, content);
                if (from >= 0 && from + i < given.length) {
                    given[from + i] = measure(content, function.isListAt(i));
                }
            }
        }

        /** Checks what a function gives, and goes back to the names of what called it. */
        private void leaveCall(Function function) {
            int from = (RESULT + 1) * (calls - 1);
            int content = pop();
            push(content);
            if (from >= 0 && from + RESULT < given.length) {
                given[from + RESULT] = measure(content, function.isList);
            }
            if (!isFew || !function.isSafe) {
                boolean isHeld = function.yields.areHeld(given, from);
                checkCount += function.yields.looked;
                if (!isHeld) {
                    finish('e');
                }
            }
            calls--;
            namesFrom = NAMES * (calls - 1);
        }

        int turn(int term, int part) {
            switch (terms.kindAt(term)) {
                case Terms.LET:
                    if (part == 1) {
                        bind(terms.detailAt(term), pop(), false);
                    }
                    return part;
                case Terms.CHOICE:
                    return part < 2 ? part : part == 2 ? partChoice(term) : MOST_PARTS;
                case Terms.MATCH:
                    return part < 1 ? part : part == 1 ? partMatch(term) : MOST_PARTS;
                case Terms.CLAIM:
                    if (part == 2) {
                        checkClaim(term);
                    }
                    return part;
                case Terms.CALL:
                    Function callee = functionOf(term);
                    int count = terms.partsAt(term);
                    if (part == count && callee != null) {
                        openCall(callee);
                        enterBody(term, callee);
                        return -1;
                    }
                    if (part > count && callee != null) {
                        leaveCall(callee);
                    }
                    return part;
                default:
                    return part;
            }
        }

        private int partChoice(int term) {
            int second = measure(pop(), terms.sortOfPart(term, 1) == Checker.LIST);
            int first = measure(pop(), terms.sortOfPart(term, 0) == Checker.LIST);
            boolean isHeld = terms.detailAt(term) == '=' ? first == second : first < second;
            return isHeld ? 2 : 3;
        }

        private int partMatch(int term) {
            int list = pop();
            if (list <= 0 || list >= CELLS) {
                return 1;
            }
            bind(terms.detailAt(term), cellFirst[list], false);
            bind(terms.detailTooAt(term), cellRest[list], true);
            return 2;
        }

        private void checkClaim(int term) {
            int second = measure(pop(), terms.sortOfPart(term, 1) == Checker.LIST);
            int first = measure(pop(), terms.sortOfPart(term, 0) == Checker.LIST);
            if (isFew && terms.isSafeAt(term)) {
                return;
            }
            checkCount++;
            if (first - second > terms.detailAt(term)) {
                finish('a');
            }
        }

        /** Behind its parts a call goes on to the body of the function, as if that were one part more. */
        private void enterBody(int term, Function callee) {
            int top = depth - 1;
            if (calls > MOST_CALLS || top < 0 || top >= ROOM) {
                finish('l');
                return;
            }
            next[top]++;
            boolean isHeld = true;
            if (!isFew || !terms.isSafeAt(term)) {
                isHeld = callee.wants.areHeld(given, (RESULT + 1) * (calls - 1));
                checkCount += callee.wants.looked;
            }
            if (isHeld) {
                begin(callee.body);
            } else {
                finish('p');
            }
        }

        void close(int term) {
            int detail = terms.detailAt(term);
            switch (terms.kindAt(term)) {
                case Terms.NUMBER:
                    push(detail);
                    break;
                case Terms.NAME:
                    push(nameAt(detail));
                    break;
                case Terms.PLUS:
                    pushMade(pop() + detail);
                    break;
                case Terms.SUM:
                    pushMade(pop() + pop());
                    break;
                case Terms.LET:
                    unbind(detail, false);
                    break;
                case Terms.EMPTY:
                    push(0);
                    break;
                case Terms.AHEAD:
                    closeAhead();
                    break;
                case Terms.MATCH:
                    unbindMatch(term);
                    break;
                default:
                    break;
            }
        }

        private void pushMade(int number) {
            if (number < -MOST_MADE || number > MOST_MADE) {
                finish('o');
            }
            push(number);
        }

        private void closeAhead() {
            int rest = pop();
            int first = pop();
            if (cells >= 0 && cells < CELLS && rest >= 0 && rest < cells) {
                cellFirst[cells] = first;
                cellRest[cells] = rest;
                cellLength[cells] = cellLength[rest] + 1;
                push(cells);
                cells++;
            }
        }
    }

    /** What is known of all functions together, made anew when it is asked for behind a change. */
    private static final class Analysis {
        static final int MOST_STORED = 1 << 17;

        final Terms terms;
        final Function[] functions;
        final Walker walker;
        final Prover prover;
        final Runner runner;
        final int[] patternFirst = new int[MOST_PATTERNS];
        final int[] patternSecond = new int[MOST_PATTERNS];
        final int[] patternMost = new int[MOST_PATTERNS];
        int patternCount;
        /** All conditions, each packed in one number. */
        int[] stored = new int[256];
        int storedCount;
        int provedCount;
        long neededSum;
        boolean isAllSound;
        boolean isKnown;
        boolean isDepthKnown;

        Analysis(Terms terms, Function[] functions, Walker walker, Prover prover, Runner runner) {
            this.terms = terms;
            this.functions = functions;
            this.walker = walker;
            this.prover = prover;
            this.runner = runner;
        }

        static char kindIn(int packed) {
            int code = packed & 3;
            return code == 0 ? 'p' : code == 1 ? 'm' : code == 2 ? 'a' : 'e';
        }

        static boolean isProvedIn(int packed) {
            return (packed >> 2 & 1) == 1;
        }

        static int termIn(int packed) {
            return packed >> 3 & 127;
        }

        static int factsIn(int packed) {
            return packed >> 10;
        }

        private static int pack(char kind, boolean isProved, int term, int facts) {
            int code = kind == 'p' ? 0 : kind == 'm' ? 1 : kind == 'a' ? 2 : 3;
            return code + (isProved ? 4 : 0) + (term << 3) + (facts << 10);
        }

        void addPattern(int first, int second, int most) {
            if (patternCount >= 0 && patternCount < MOST_PATTERNS) {
                patternFirst[patternCount] = first;
                patternSecond[patternCount] = second;
                patternMost[patternCount] = most;
                patternCount++;
                forget();
            }
        }

        void forget() {
            isKnown = false;
            isDepthKnown = false;
        }

        private boolean isWalked(int function) {
            return function >= 0 && function < functions.length && functions[function] != null
                    && functions[function].fault == '-';
        }

        /** Finds out to which functions each one can come by calls in bodies without errors. */
        void linkCalls() {
            for (int i = 0; i < functions.length && functions[i] != null; i++) {
                int reach = isWalked(i) ? functions[i].calls : 0;
                for (int round = 0; round < MOST_FUNCTIONS; round++) {
                    for (int j = 0; j < functions.length; j++) {
                        if ((reach >> j & 1) == 1 && isWalked(j)) {
                            reach |= functions[j].calls;
                        }
                    }
                }
                functions[i].reach = reach;
            }
        }

        boolean isRunnable(Function function) {
            if (function.fault != '-') {
                return false;
            }
            for (int i = 0; i < functions.length; i++) {
                if (function.comesTo(i) && !isWalked(i)) {
                    return false;
                }
            }
            return true;
        }

        /** Finds what is to be found, and then goes through all conditions. */
        void refresh() {
            if (isKnown) {
                return;
            }
            isKnown = true;
            for (int i = 0; i < functions.length && functions[i] != null; i++) {
                collect(functions[i], functions[i].wants, false);
                collect(functions[i], functions[i].yields, true);
            }
            boolean isChanged = true;
            for (int round = 0; round < MANY && isChanged; round++) {
                for (int i = 0; i < functions.length; i++) {
                    if (isWalked(i) && concernsFound(functions[i])) {
                        sift(i);
                    }
                }
                isChanged = sweep();
            }
            storedCount = 0;
            provedCount = 0;
            terms.setAllSafe();
            for (int i = 0; i < functions.length && functions[i] != null; i++) {
                functions[i].firstCondition = storedCount;
                functions[i].isSafe = true;
                if (isWalked(i)) {
                    report(i, functions[i]);
                }
                functions[i].conditionCount = storedCount - functions[i].firstCondition;
            }
        }

        /** Lets atoms that are to be found be all atoms of patterns, from which those that do not hold are dropped. */
        private void collect(Function function, Atoms atoms, boolean isGiven) {
            if (!atoms.isFound) {
                return;
            }
            atoms.size = 0;
            for (int i = 0; i < patternCount && i < MOST_PATTERNS && function.fault == '-'; i++) {
                int first = patternFirst[i];
                int second = patternSecond[i];
                if (!isGiven && (first == 2 || second == 2)) {
                    continue;
                }
                for (int j = 0; j < spread(first, function); j++) {
                    for (int k = 0; k < spread(second, function); k++) {
                        int one = thingOf(first, j);
                        int other = thingOf(second, k);
                        if (one != other) {
                            atoms.insert(Atoms.codeOf(one, other, patternMost[i]));
                        }
                    }
                }
            }
        }

        private static int spread(int patternThing, Function function) {
            return patternThing == 1 ? function.parameters : 1;
        }

        private static int thingOf(int patternThing, int parameter) {
            return patternThing == 0 ? NOTHING : patternThing == 1 ? parameter : RESULT;
        }

        private boolean concernsFound(Function function) {
            if (function.yields.isFound && function.yields.size > 0) {
                return true;
            }
            for (int i = 0; i < functions.length; i++) {
                if ((function.calls >> i & 1) == 1 && functions[i] != null
                        && functions[i].wants.isFound && functions[i].wants.size > 0) {
                    return true;
                }
            }
            return false;
        }

        private void sift(int function) {
            walker.start(function);
            for (int i = 0; i < MANY && walker.goOn(); i++) {
                Atoms atoms = walker.atoms;
                if (atoms != null && atoms.isFound && !atoms.isGoneAt(walker.atomAt) && !prover.holds()) {
                    atoms.drop(walker.atomAt);
                }
            }
        }

        private boolean sweep() {
            boolean isChanged = false;
            for (int i = 0; i < functions.length && functions[i] != null; i++) {
                isChanged = functions[i].wants.sweep() || isChanged;
                isChanged = functions[i].yields.sweep() || isChanged;
            }
            return isChanged;
        }

        private void report(int number, Function function) {
            walker.start(number);
            for (int i = 0; i < MANY && walker.goOn(); i++) {
                if (walker.isFound()) {
                    continue;
                }
                boolean isProved = prover.holds();
                if (!isProved && walker.kind == 'e') {
                    function.isSafe = false;
                } else if (!isProved && walker.kind != 'm') {
                    terms.setUnsafe(walker.stageTerm);
                }
                store(pack(walker.kind, isProved, walker.stageTerm, walker.facts.size));
                provedCount += isProved ? 1 : 0;
            }
        }

        private void store(int packed) {
            if (storedCount >= stored.length && stored.length < MOST_STORED) {
                stored = Arrays.copyOf(stored, 2 * stored.length);
            }
            if (storedCount >= 0 && storedCount < stored.length) {
                stored[storedCount] = packed;
                storedCount++;
            }
        }

        /** Lets the walker stand at a condition that is told. */
        void walkTo(int function, int index) {
            walker.start(function);
            int left = index;
            for (int i = 0; i < MANY && walker.goOn(); i++) {
                if (!walker.isFound()) {
                    if (left == 0) {
                        return;
                    }
                    left--;
                }
            }
        }

        /** Goes through all conditions with the facts that they need, and with their examples. */
        void deepen() {
            if (isDepthKnown) {
                return;
            }
            isDepthKnown = true;
            isAllSound = true;
            neededSum = 0;
            for (int i = 0; i < functions.length; i++) {
                if (!isWalked(i)) {
                    continue;
                }
                walker.start(i);
                for (int j = 0; j < MANY && walker.goOn(); j++) {
                    if (walker.isFound()) {
                        continue;
                    }
                    if (prover.holds()) {
                        prover.findNeeded();
                        neededSum += prover.neededCount;
                        isAllSound = isAllSound && prover.holdsFromNeeded();
                    } else if (prover.findExample(functions[i].parameters)) {
                        isAllSound = isAllSound && prover.isBroken(functions[i].parameters);
                        char end = isRunnable(functions[i]) ? runner.execute(functions[i], prover.chosen, false) : '-';
                        if (end == walker.kind && runner.execute(functions[i], prover.chosen, true) != end) {
                            isAllSound = false;
                        }
                    }
                }
            }
        }
    }
}
