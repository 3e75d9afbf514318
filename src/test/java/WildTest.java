import java.lang.reflect.Method;
import java.util.List;
import java.util.Random;

/**
 * Calls of every method with any arguments, in any order: none may end by an exception of the machine, which, unlike
 * those that are thrown on purpose, have a message, nor by one that the method does not declare. Arguments: the first
 * seed and how many (by default 1 and 300).
 */
public final class WildTest {
    private static final int[] ODD = {Integer.MIN_VALUE, Integer.MAX_VALUE, -2, -1, 0, 1, 2, 3, 4, 5, 6, 99, 100, -99, -100,
        119, 120, 121, 1 << 16, -(1 << 16), 32768, 601, -601};

    private final Random random;
    private final RefinementMint mint = new RefinementMint();

    private WildTest(long seed) {
        random = new Random(seed);
    }

    public static void main(String[] args) {
        long from = args.length > 0 ? Long.parseLong(args[0]) : 1;
        long count = args.length > 1 ? Long.parseLong(args[1]) : 300;
        int wrong = 0;
        for (long seed = from; seed < from + count; seed++) {
            WildTest test = new WildTest(seed);
            for (int call = 0; call < 512; call++) {
                int method = call < 60 ? test.random.nextInt(22) : test.random.nextInt(46);
                try {
                    test.call(method);
                } catch (RuntimeException e) {
                    if (e.getMessage() != null || !e.getStackTrace()[0].getClassName().equals("RefinementMint")
                            || !isDeclared(e)) {
                        wrong++;
                        System.out.println("seed " + seed + " call " + call + " of " + method + ": " + e);
                    }
                }
            }
        }
        System.out.println(wrong == 0 ? "the machine threw nothing" : wrong + " exceptions that are not due");
        System.exit(wrong == 0 ? 0 : 1);
    }

    /** Whether the method of the face that was called, the outermost one of the class, declares the exception. */
    private static boolean isDeclared(RuntimeException thrown) {
        String called = "";
        for (StackTraceElement frame : thrown.getStackTrace()) {
            called = frame.getClassName().equals("RefinementMint") ? frame.getMethodName() : called;
        }
        for (Method method : RefinementMint.class.getMethods()) {
            if (method.getName().equals(called)) {
                return List.of(method.getExceptionTypes()).contains(thrown.getClass());
            }
        }
        return false;
    }

    private int any() {
        int kind = random.nextInt(20);
        return kind == 0 ? ODD[random.nextInt(ODD.length)] : kind < 12 ? random.nextInt(4) : random.nextInt(9) - 2;
    }

    private int term() {
        return random.nextInt(12) == 0 ? any() : random.nextInt(120);
    }

    private int function() {
        return random.nextInt(15) == 0 ? any() : random.nextInt(3);
    }

    private int parameter() {
        return random.nextInt(8) == 0 ? any() : random.nextInt(4) - 1;
    }

    private void call(int method) {
        switch (method) {
            case 0: mint.addFunction(any(), any(), random.nextBoolean()); break;
            case 1: mint.needs(function(), parameter(), parameter(), any()); break;
            case 2: mint.gives(function(), parameter(), random.nextInt(2) == 0 ? 3 : parameter(), any()); break;
            case 3: mint.findNeeds(function()); break;
            case 4: mint.findGives(function()); break;
            case 5: mint.pattern(any(), any(), any()); break;
            case 6: mint.metric(function(), parameter(), any(), parameter(), any()); break;
            case 7: mint.setLazy(function(), random.nextInt(4) == 0); break;
            case 8: mint.setBody(function(), term()); break;
            case 9: mint.number(any()); break;
            case 10: mint.name(any()); break;
            case 11: mint.plus(term(), any()); break;
            case 12: mint.sum(term(), term()); break;
            case 13: mint.let(any(), term(), term()); break;
            case 14: mint.choice(random.nextInt(9) == 0 ? (char) any() : "<=".charAt(random.nextInt(2)), term(), term(),
                    term(), term()); break;
            case 15: case 16: mint.call(function(), parameterTerm(), parameterTerm(), parameterTerm()); break;
            case 17: mint.empty(); break;
            case 18: mint.ahead(term(), term()); break;
            case 19: case 20: mint.match(term(), term(), any(), any(), term()); break;
            case 21: mint.claim(term(), term(), any(), term()); break;
            default: ask(method); break;
        }
    }

    private int parameterTerm() {
        return random.nextInt(3) == 0 ? -1 : term();
    }

    private void ask(int method) {
        switch (method) {
            case 22: mint.error(function()); break;
            case 23: mint.errorAt(function()); break;
            case 24: mint.ways(function()); break;
            case 25: mint.conditions(function()); break;
            case 26: mint.kindOf(function(), any()); break;
            case 27: mint.termOf(function(), any()); break;
            case 28: mint.isProved(function(), any()); break;
            case 29: mint.facts(function(), any()); break;
            case 30: mint.needed(function(), any()); break;
            case 31: mint.neededAt(function(), any(), any()); break;
            case 32: mint.example(function(), any(), any()); break;
            case 33: mint.isReal(function(), any()); break;
            case 34: mint.allNeeds(function()); break;
            case 35: mint.doesNeed(function(), any(), any(), any()); break;
            case 36: mint.allGives(function()); break;
            case 37: mint.doesGive(function(), any(), any(), any()); break;
            case 38: mint.isInRing(function()); break;
            case 39: mint.run(function(), any(), any(), any()); break;
            case 40: mint.runFew(function(), any(), any(), any()); break;
            case 41: mint.result(); break;
            case 42: mint.checks(); mint.steps(); break;
            case 43: mint.allConditions(); break;
            case 44: mint.provedShare(); mint.meanNeeded(); break;
            default: mint.isSound(); break;
        }
    }
}
