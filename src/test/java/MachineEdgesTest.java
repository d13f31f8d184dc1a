import java.math.BigInteger;

/** Of the Terms part II: what the document says of numbers, failures and a RUN, at each limit and one step to each side of it. */
public final class MachineEdgesTest {
    private static final String[] KINDS = {"byte", "short", "int", "long"};
    private static final int[] BITS = {8, 16, 32, 64};
    private static final long[] EDGES = {Long.MIN_VALUE, Long.MIN_VALUE + 1, -(1L << 32), -65, -64, -63, -2, -1, 0, 1, 2, 62, 63, 64, 65,
        1L << 31, (1L << 32) + 3, Long.MAX_VALUE - 1, Long.MAX_VALUE};

    public static void main(String[] args) {
        goingRound();
        turns();
        products();
        arithmetic();
        comparisons();
        shifts();
        truth();
        rightOneOnlyIfNeeded();
        byZero();
        indexes();
        indexesInStatements();
        indexesOfParams();
        fullStacks();
        emptyStacks();
        taken();
        placeFirst();
        left();
        leftAtDelocal();
        failingExLeavesLocal();
        highest();
        frames();
        framesBackwards();
        framesByUncall();
        localsInAll();
        roomBehindEx();
        steps();
        stepsAsked();
        endedAtOnce();
        endedWithMainAlone();
        refusedStep();
        failureAndEnd();
        Mill.finish();
    }

    private static long least(int bits) {
        return -1L << (bits - 1);
    }

    private static long most(int bits) {
        return ~least(bits);
    }

    /** Does one statement on x = 1st SCALAR, with e = 2nd: what x is then; a STEP back must give x again. */
    private static void change(String kind, String statement, long x, long e, long due) {
        Mill m = Mill.of(kind + " x; long e; main { " + statement + " }");
        m.mill.set(0, 0, x);
        m.mill.set(1, 0, e);
        m.mill.begin(false);
        String told = kind + " " + statement + " with x " + x + ", e " + e;
        Mill.due("step(1) of " + told, m.mill.step(1), 1);
        Mill.due(told, m.mill.value(0, 0), due);
        Mill.due("step(-1) of " + told, m.mill.step(-1), 1);
        Mill.due("x again of " + told, m.mill.value(0, 0), x);
    }

    /** "x += e: the lowest bits of x + e", at both ends of each width. */
    private static void goingRound() {
        for (int k = 0; k < KINDS.length; k++) {
            long low = least(BITS[k]);
            long high = most(BITS[k]);
            change(KINDS[k], "x += e;", high - 1, 1, high);
            change(KINDS[k], "x += e;", high, 1, low);
            change(KINDS[k], "x += e;", low, -1, high);
            change(KINDS[k], "x -= e;", low + 1, 1, low);
            change(KINDS[k], "x -= e;", low, 1, high);
            change(KINDS[k], "x -= e;", high, -1, low);
            change(KINDS[k], "x ^= e;", high, -1, low);
            change(KINDS[k], "x ^= e;", 0, low, low);
            change(KINDS[k], "x += e;", 5, Long.MIN_VALUE, BITS[k] == 64 ? Long.MIN_VALUE + 5 : 5);
            if (BITS[k] < 64) {
                change(KINDS[k], "x += e;", 5, 1L << BITS[k], 5);
                change(KINDS[k], "x += e;", 0, (1L << BITS[k]) - 1, -1);
                change(KINDS[k], "x ^= e;", 5, 1L << BITS[k], 5);
            }
        }
    }

    /** The bits of x, turned to the left one by one. */
    private static long turned(long x, int bits, int times) {
        long result = x;
        for (int i = 0; i < times; i++) {
            boolean highest = result < 0;
            long moved = result << 1 | (highest ? 1 : 0);
            result = moved << (64 - bits) >> (64 - bits);
        }
        return result;
    }

    /** "<<= turns the bits of x (of its width) to the left by e modulo the width (0 .. width less 1), >>= to the right". */
    private static void turns() {
        for (int k = 0; k < KINDS.length; k++) {
            int bits = BITS[k];
            for (long x : new long[] {1, -2, 5, least(bits), most(bits), least(bits) + 1, 0, -1}) {
                for (long e : new long[] {-bits - 1, -bits, -bits + 1, -1, 0, 1, 2, bits - 1, bits, bits + 1, Long.MIN_VALUE, Long.MAX_VALUE}) {
                    int by = (int) Math.floorMod(e, (long) bits);
                    change(KINDS[k], "x <<= e;", x, e, turned(x, bits, by));
                    change(KINDS[k], "x >>= e;", x, e, turned(x, bits, (bits - by) % bits));
                }
            }
        }
    }

    private static long lowest(BigInteger x, int bits) {
        return x.longValue() << (64 - bits) >> (64 - bits);
    }

    /** "*= n: the lowest bits of x times n; /= n: the number whose *= n is x". */
    private static void products() {
        long[] factors = {1, 3, 5, 127, 129, 255, 257, 65535, 65537, 4294967295L, 4294967297L, 999999999999999999L};
        for (int k = 0; k < KINDS.length; k++) {
            int bits = BITS[k];
            for (long n : factors) {
                BigInteger inverse = BigInteger.valueOf(n).modInverse(BigInteger.ONE.shiftLeft(bits));
                for (long x : new long[] {0, 1, -1, 2, 100, least(bits), most(bits)}) {
                    change(KINDS[k], "x *= " + n + ";", x, 0, lowest(BigInteger.valueOf(x).multiply(BigInteger.valueOf(n)), bits));
                    change(KINDS[k], "x /= " + n + ";", x, 0, lowest(BigInteger.valueOf(x).multiply(inverse), bits));
                }
            }
        }
    }

    /** A mill with long x, p, q whose main does x += ex. */
    private static Mill reckoner(String ex) {
        return Mill.of("long x, p, q; main { x += " + ex + "; }");
    }

    /** What the ex gives with p and q; the mill is left without a RUN and x 0. */
    private static long worth(Mill m, long p, long q) {
        m.mill.set(1, 0, p);
        m.mill.set(2, 0, q);
        m.mill.begin(false);
        Mill.due("step(1) with " + p + ", " + q, m.mill.step(1), 1);
        long x = m.mill.value(0, 0);
        m.mill.step(-1);
        m.mill.drop();
        return x;
    }

    private static long big(String operator, long p, long q) {
        BigInteger x = BigInteger.valueOf(p);
        BigInteger y = BigInteger.valueOf(q);
        switch (operator) {
            case "+":
                return x.add(y).longValue();
            case "-":
                return x.subtract(y).longValue();
            case "*":
                return x.multiply(y).longValue();
            case "/":
                return x.divide(y).longValue();
            default:
                return x.remainder(y).longValue();
        }
    }

    /** "all is worked in 64 bits, going round; .. / towards 0, % with the sign of the left one". */
    private static void arithmetic() {
        for (String operator : new String[] {"+", "-", "*", "/", "%"}) {
            for (long p : EDGES) {
                Mill m = reckoner("p " + operator + " q");
                for (long q : EDGES) {
                    if (q != 0 || !operator.equals("/") && !operator.equals("%")) {
                        Mill.due(p + operator + q, worth(m, p, q), big(operator, p, q));
                    }
                }
            }
        }
        for (long p : EDGES) {
            Mill.due("-" + p, worth(reckoner("-p"), p, 0), BigInteger.valueOf(p).negate().longValue());
            Mill.due("~" + p, worth(reckoner("~p"), p, 0), -1 - p);
        }
    }

    /** "comparisons .. give 1 or 0". */
    private static void comparisons() {
        String[] operators = {"==", "!=", "<", "<=", ">", ">="};
        for (String operator : operators) {
            for (long p : EDGES) {
                Mill m = reckoner("p " + operator + " q");
                for (long q : new long[] {p, p + 1, p - 1, 0, ~p}) {
                    int c = BigInteger.valueOf(p).compareTo(BigInteger.valueOf(q));
                    boolean less = c < 0 && operator.startsWith("<") || c > 0 && operator.startsWith(">");
                    boolean same = c == 0 && (operator.equals("==") || operator.equals("<=") || operator.equals(">="));
                    boolean other = c != 0 && operator.equals("!=");
                    Mill.due(p + operator + q, worth(m, p, q), less || same || other ? 1 : 0);
                }
            }
        }
    }

    /** "shifts by the lowest six bits, >> with the sign, >>> without". */
    private static void shifts() {
        for (long p : new long[] {1, -1, Long.MIN_VALUE, Long.MAX_VALUE, 0x123456789abcdefL}) {
            for (long q : EDGES) {
                int by = (int) Math.floorMod(q, 64L);
                BigInteger unsigned = BigInteger.valueOf(p).and(BigInteger.ONE.shiftLeft(64).subtract(BigInteger.ONE));
                Mill.due(p + "<<" + q, worth(reckoner("p << q"), p, q), BigInteger.valueOf(p).shiftLeft(by).longValue());
                Mill.due(p + ">>" + q, worth(reckoner("p >> q"), p, q), BigInteger.valueOf(p).shiftRight(by).longValue());
                Mill.due(p + ">>>" + q, worth(reckoner("p >>> q"), p, q), unsigned.shiftRight(by).longValue());
            }
        }
    }

    /** "true is what is not 0". */
    private static void truth() {
        for (long p : EDGES) {
            long yes = p == 0 ? 0 : 1;
            Mill.due("!" + p, worth(reckoner("!p"), p, 0), 1 - yes);
            Mill.due(p + " && 1", worth(reckoner("p && 1"), p, 0), yes);
            Mill.due("1 && " + p, worth(reckoner("1 && p"), p, 0), yes);
            Mill.due(p + " || 0", worth(reckoner("p || 0"), p, 0), yes);
            Mill.due("0 || " + p, worth(reckoner("0 || p"), p, 0), yes);
            failure("long x; main { assert x; }", p, false, p == 0 ? 1 : 0);
        }
    }

    /** "these two work out the right one only if it is needed". */
    private static void rightOneOnlyIfNeeded() {
        failure("long x; main { assert x && 1 / 0 || 1; }", 0, false, 0);
        failure("long x; main { assert x && 1 / 0 || 1; }", 1, false, 3);
        failure("long x; main { assert x || 1 / 0; }", 1, false, 0);
        failure("long x; main { assert x || 1 / 0; }", 0, false, 3);
        failure("long x; main { assert 1 / 0 && x; }", 0, false, 3);
        failure("long x; main { assert 1 / 0 || x; }", 1, false, 3);
    }

    /** Runs main's one statement with x (of the 1st SCALAR): the FAILURE that is due, 0 for none. */
    private static void failure(String text, long x, boolean backwards, int due) {
        Mill m = Mill.of(text);
        m.mill.set(0, 0, x);
        dueFailure(m, text + " with " + x, backwards, due);
    }

    private static void dueFailure(Mill m, String told, boolean backwards, int due) {
        m.mill.begin(backwards);
        String before = m.all();
        int done = m.mill.step(1);
        Mill.due("step(1) of " + told, done, due == 0 ? 1 : 0);
        Mill.due("state(1) of " + told, m.mill.state(1), due);
        Mill.due("state(0) of " + told + " is 3", m.mill.state(0) == 3 == (due != 0));
        if (due != 0) {
            Mill.due("all of " + told, m.all(), before);
        }
        m.mill.drop();
    }

    /** "by 0: ZERO". */
    private static void byZero() {
        for (String operator : new String[] {"/", "%"}) {
            for (long q : new long[] {-1, 0, 1}) {
                failure("long q; long x; main { x += 7 " + operator + " q; }", q, false, q == 0 ? 3 : 0);
                failure("long q; long x; main { x += 7 " + operator + " q; }", q, true, q == 0 ? 3 : 0);
                failure("long q; long x; main { x += 0 " + operator + " q; }", q, false, q == 0 ? 3 : 0);
            }
        }
    }

    /** "A place of a ROW: INDEX if there is none such", of rows with 1, 3 and 200 numbers. */
    private static void indexes() {
        for (int n : new int[] {1, 3, 200}) {
            long[] around = {-1, 0, n - 1, n, (1L << 32), (1L << 32) + n - 1, -(1L << 32), Long.MIN_VALUE, Long.MAX_VALUE};
            for (long i : around) {
                int due = i >= 0 && i < n ? 0 : 2;
                for (boolean backwards : new boolean[] {false, true}) {
                    failure("long i; int a[" + n + "]; int x; main { x += a[i]; }", i, backwards, due);
                    failure("long i; int a[" + n + "]; int x; main { a[i] += 1; }", i, backwards, due);
                }
            }
        }
    }

    private static void indexesInStatements() {
        String head = "long i; int a[2], b[2]; int x; stack int s[2]; main { ";
        for (long i = -1; i <= 2; i++) {
            int due = i >= 0 && i < 2 ? 0 : 2;
            for (boolean backwards : new boolean[] {false, true}) {
                for (String statement : new String[] {"a[i] *= 3;", "a[i] <<= 1;", "a[i] <=> x;", "x <=> a[i];", "a[i] <=> a[1];", "x += b[a[i]];"}) {
                    failure(head + statement + " }", i, backwards, due);
                }
                failure(head + "push a[i], s; }", i, backwards, due == 0 && backwards ? 4 : due);
                failure(head + "pop a[i], s; }", i, backwards, due == 0 && !backwards ? 4 : due);
            }
            failure(head + "local int k = a[i] {} delocal 0; }", i, false, due);
            failure(head + "if a[i] == 0 {} fi 1; }", i, false, due);
            failure(head + "from a[i] == 0 until 1; }", i, false, due);
        }
    }

    /** A param has the numbers of its argument: size and INDEX by it. */
    private static void indexesOfParams() {
        Mill m = Mill.of("int i, x; int a[1], b[3]; proc p(int r[], int i, int x) { r[i] += 1; x += size(r); } main { call p(a, i, x); call p(b, i, x); }");
        for (int i = 0; i <= 3; i++) {
            m.mill.set(0, 0, i);
            m.mill.begin(false);
            Mill.due("step(20000) with " + i, m.mill.step(20000), i < 1 ? 8 : 1);
            Mill.due("state(1) with " + i, m.mill.state(1), i < 1 ? 0 : 2);
            Mill.due("numbers with " + i, m.numbers(), i < 1 ? "0 4 1 1,0,0" : i + " 0 0 0,0,0");
            m.mill.step(-20000);
            m.mill.drop();
            m.mill.begin(true);
            Mill.due("step(20000) backwards with " + i, m.mill.step(20000), i < 1 ? 8 : i < 3 ? 6 : 2);
            Mill.due("state(1) backwards with " + i, m.mill.state(1), i < 1 ? 0 : 2);
            m.mill.step(-20000);
            m.mill.drop();
        }
    }

    /** "5 FULL: PUSH (POP back) where the STACK has as many as it can". */
    private static void fullStacks() {
        for (int n : new int[] {1, 2, 40}) {
            for (String word : new String[] {"push", "pop"}) {
                String text = "int x; stack int s[" + n + "]; main { " + word + " x, s; }";
                for (int height = Math.max(0, n - 2); height <= n; height++) {
                    Mill m = Mill.of(text);
                    m.mill.set(0, 0, 9);
                    for (int i = 0; i < height; i++) {
                        Mill.due("lay(1, 1)", m.mill.lay(1, 1), i + 1);
                    }
                    dueFailure(m, text + " with " + height, word.equals("pop"), height < n ? 0 : 5);
                    Mill.due("size(1)", m.mill.size(1), Math.min(n, height + 1));
                    Mill.due("value(0, 0)", m.mill.value(0, 0), height < n ? 0 : 9);
                    Mill.due("the top", m.mill.value(1, Math.min(n, height + 1) - 1), height < n ? 9 : 1);
                }
            }
        }
    }

    /** "top of an empty STACK: EMPTY. size: how many numbers .. a STACK now; empty: 1 or 0", and "POP then: EMPTY, then TAKEN". */
    private static void emptyStacks() {
        for (int height = 0; height <= 2; height++) {
            Mill m = Mill.of("long x; stack long s[2]; main { x += top(s); }");
            Mill n = Mill.of("long x; stack long s[2]; main { x += size(s) * 2 + empty(s); }");
            Mill push = Mill.of("long x; stack long s[2]; main { push x, s; }");
            Mill pop = Mill.of("long x; stack long s[2]; main { pop x, s; }");
            for (int i = 0; i < height; i++) {
                m.mill.lay(1, 7 + i);
                n.mill.lay(1, 7 + i);
                push.mill.lay(1, 7 + i);
                pop.mill.lay(1, 7 + i);
            }
            dueFailure(m, "top with " + height, false, height == 0 ? 4 : 0);
            Mill.due("top with " + height, m.mill.value(0, 0), height == 0 ? 0 : 6 + height);
            dueFailure(n, "size with " + height, false, 0);
            Mill.due("size with " + height, n.mill.value(0, 0), height == 0 ? 1 : 2 * height);
            dueFailure(pop, "pop with " + height, false, height == 0 ? 4 : 0);
            Mill.due("popped with " + height, pop.mill.value(0, 0), height == 0 ? 0 : 6 + height);
            dueFailure(push, "push backwards with " + height, true, height == 0 ? 4 : 0);
            Mill.due("left with " + height, push.mill.size(1), Math.max(0, height - 1));
        }
    }

    /** "POP: if x is not 0: TAKEN", behind EMPTY. */
    private static void taken() {
        for (long x = -1; x <= 1; x++) {
            for (int height = 0; height <= 1; height++) {
                for (String word : new String[] {"push", "pop"}) {
                    String text = "byte x; stack byte s[1]; main { " + word + " x, s; }";
                    Mill m = Mill.of(text);
                    m.mill.set(0, 0, x);
                    if (height > 0) {
                        m.mill.lay(1, 5);
                    }
                    int due = height == 0 ? 4 : x == 0 ? 0 : 6;
                    dueFailure(m, text + " with " + x + " on " + height, word.equals("push"), due);
                    Mill.due("value(0, 0)", m.mill.value(0, 0), due == 0 ? 5 : x);
                }
            }
        }
    }

    /** "(Of PUSH and POP: 2, 3, 4 of the place first ..)": ahead of FULL, EMPTY and TAKEN. */
    private static void placeFirst() {
        String[] places = {"a[2]", "a[1 / 0]", "a[top(t)]"};
        for (int i = 0; i < places.length; i++) {
            for (String word : new String[] {"push", "pop"}) {
                for (boolean backwards : new boolean[] {false, true}) {
                    for (int height = 0; height <= 1; height++) {
                        String text = "int x; int a[2]; stack int t[1]; stack int s[1]; main { " + word + " " + places[i] + ", s; }";
                        Mill m = Mill.of(text);
                        m.mill.set(1, 0, 1);
                        m.mill.set(1, 1, 1);
                        if (height > 0) {
                            m.mill.lay(3, 1);
                        }
                        dueFailure(m, text + " with " + height, backwards, i + 2);
                    }
                }
            }
        }
    }

    /** "if the LOCAL is not just that (its lowest bits), LEFT", at LOCAL back. */
    private static void left() {
        for (int k = 0; k < KINDS.length; k++) {
            for (int more = -1; more <= 1; more++) {
                String text = "long e; main { local " + KINDS[k] + " k = e {} delocal e + " + (more + 2) + "; }";
                for (long e : new long[] {0, -3, most(BITS[k]) - 1, Long.MAX_VALUE}) {
                    leftBehind(text, e, more == -1 ? 1 : more + 2);
                }
            }
            String round = BITS[k] == 64 ? "0" : String.valueOf(1L << BITS[k]);
            leftBehind("long e; main { local " + KINDS[k] + " k = e {} delocal e + " + round + "; }", 5, 0);
            leftBehind("long e; main { local " + KINDS[k] + " k = e - " + round + " {} delocal e; }", least(BITS[k]), 0);
        }
    }

    /** Both ways: by how much the ex at the end is off, LEFT is due. */
    private static void leftBehind(String text, long e, long off) {
        for (boolean backwards : new boolean[] {false, true}) {
            Mill m = Mill.of(text);
            m.mill.set(0, 0, e);
            m.mill.begin(backwards);
            Mill.due("step(20000) of " + text + " with " + e, m.mill.step(20000), off == 0 ? 2 : 1);
            Mill.due("state(1)", m.mill.state(1), off == 0 ? 0 : 7);
            Mill.due("state(7)", m.mill.state(7), off == 0 ? 0 : 1);
            int at = backwards ? text.indexOf("local") : text.indexOf("delocal");
            Mill.due("state(2)", m.mill.state(2), off == 0 ? JanusMill.NONE : at);
        }
    }

    /** What the block makes of the LOCAL must be just what delocal says. */
    private static void leftAtDelocal() {
        for (int more = -1; more <= 1; more++) {
            Mill m = Mill.of("int x; main { local byte k = 127 { k += 1; k += x; } delocal -128; }");
            m.mill.set(0, 0, more);
            m.mill.begin(false);
            Mill.due("step(20000) with " + more, m.mill.step(20000), more == 0 ? 4 : 3);
            Mill.due("state(1) with " + more, m.mill.state(1), more == 0 ? 0 : 7);
            Mill.due("local(0) with " + more, m.mill.local(0), more == 0 ? Long.MIN_VALUE : (byte) (128 + more));
        }
    }

    /** "then it is not done, and the machine is as it was": a LOCAL stays, whatever it is, where its ex can't be worked out. */
    private static void failingExLeavesLocal() {
        for (int k = -1; k <= 1; k++) {
            for (boolean backwards : new boolean[] {false, true}) {
                String text = backwards ? "int k; main { local int l = 1 / (k - k) {} delocal k; }" : "int k; main { local int l = k {} delocal 1 / (k - k); }";
                Mill m = Mill.of(text);
                m.mill.set(0, 0, k);
                m.mill.begin(backwards);
                Mill.due("step(20000) of " + text, m.mill.step(20000), 1);
                Mill.due("state(1) of " + text, m.mill.state(1), 3);
                Mill.due("state(7) of " + text, m.mill.state(7), 1);
                Mill.due("local(0) of " + text, m.mill.local(0), k);
                Mill.due("step(-1) of " + text, m.mill.step(-1), 1);
                Mill.due("state(7) of " + text, m.mill.state(7), 0);
            }
        }
    }

    /** A program with an ex of sixteen PARTS in one another for each %: true if p is 0, not if it is 1. */
    private static Mill withHighest(String statement, int p) {
        Mill m = Mill.of("int p, x; int a[2]; stack int s[1]; main { " + statement.replace("%", "!".repeat(15) + "p") + " }");
        m.mill.set(0, 0, p);
        return m;
    }

    /** The highest ex is worked out to the last of its PARTS, in each place that an ex can have. */
    private static void highest() {
        for (int p = 0; p <= 1; p++) {
            for (String test : new String[] {"assert %;", "if 1 {} fi %;", "from % until 1;", "from 1 until %;"}) {
                Mill m = withHighest(test, p);
                m.mill.begin(false);
                m.mill.step(20000);
                Mill.due("state(1) of " + test + " with " + p, m.mill.state(1), p);
            }
            for (String change : new String[] {"x += %;", "if % { x += 1; } fi x;", "local int k = % { x += k; } delocal x;",
                "local int k = 1 - p { x += k; } delocal %;"}) {
                Mill m = withHighest(change, p);
                m.mill.begin(false);
                m.mill.step(20000);
                Mill.due("state(0) of " + change + " with " + p, m.mill.state(0), 2);
                Mill.due("x of " + change + " with " + p, m.mill.value(1, 0), 1 - p);
            }
            highestInPlaces(p);
        }
    }

    private static void highestInPlaces(int p) {
        for (String statement : new String[] {"a[%] += 7;", "a[%] *= 7;", "a[%] <=> x;", "x <=> a[%];", "push a[%], s;", "pop a[%], s;"}) {
            Mill m = withHighest(statement, p);
            boolean isPop = statement.startsWith("pop");
            int before = isPop ? 0 : 1;
            m.mill.set(2, 0, before);
            m.mill.set(2, 1, before);
            if (isPop) {
                m.mill.lay(3, 5);
            }
            m.mill.begin(false);
            Mill.due("step(1) of " + statement, m.mill.step(1), 1);
            Mill.due(statement + " changes number " + (1 - p), m.mill.value(2, 1 - p) != before);
            Mill.due(statement + " leaves number " + p, m.mill.value(2, p), before);
        }
    }

    /** Goes n FRAMES deep and comes back. */
    private static final String DIVER = "int n; proc p(int n) { if n == 0 {} else { n -= 1; % p(n); n += 1; } fi n == 0; } main { % p(n); }";

    /** Runs the diver: main's FRAME and n + 1 more; the 41st is one too many. */
    private static void dive(String text, int n, boolean backwards) {
        Mill m = Mill.of(text);
        m.mill.set(0, 0, n);
        m.mill.begin(backwards);
        int done = m.mill.step(20000);
        String told = " of " + text + " with " + n;
        if (n + 2 <= 40) {
            Mill.due("state(0)" + told, m.mill.state(0), 2);
            Mill.due("value(0, 0)" + told, m.mill.value(0, 0), n);
        } else {
            Mill.due("state(0)" + told, m.mill.state(0), 3);
            Mill.due("state(1)" + told, m.mill.state(1), 8);
            Mill.due("state(2)" + told, m.mill.state(2), text.indexOf("call") - (text.contains("uncall") ? 2 : 0));
            Mill.due("state(6)" + told, m.mill.state(6), 40);
            Mill.due("frame(39, 1)" + told, m.mill.frame(39, 1) >= 0);
            Mill.due("frame(40, 2)" + told, m.mill.frame(40, 2), JanusMill.NONE);
        }
        Mill.due("step(-20000)" + told, m.mill.step(-20000), done);
        Mill.due("value(0, 0) taken back" + told, m.mill.value(0, 0), n);
        m.mill.drop();
    }

    /** "8 DEEP: a 41st FRAME". */
    private static void frames() {
        String text = DIVER.replace("%", "call");
        for (int n = 37; n <= 39; n++) {
            dive(text, n, false);
        }
        Mill m = Mill.of(text);
        m.mill.set(0, 0, 38);
        m.mill.begin(false);
        // Behind the last CALL: IF, UPDATE and CALL of each procedure but the innermost.
        Mill.due("step", m.mill.step(1 + 38 * 3), 115);
        Mill.due("state(6)", m.mill.state(6), 40);
        Mill.due("frame(39, 0)", m.mill.frame(39, 0), 0);
    }

    /** CALL back. */
    private static void framesBackwards() {
        for (int n = 37; n <= 39; n++) {
            dive(DIVER.replace("%", "call"), n, true);
        }
    }

    /** UNCALL on and back. */
    private static void framesByUncall() {
        for (int n = 37; n <= 39; n++) {
            dive(DIVER.replace("%", "uncall"), n, false);
            dive(DIVER.replace("%", "uncall"), n, true);
        }
    }

    /** Procedures with five locals each, one in another 39 deep, and so many locals in main. */
    private static String manyLocals(int inMain) {
        StringBuilder s = new StringBuilder("int n; proc p(int n) { ");
        for (int i = 0; i < 5; i++) {
            s.append("local int k").append(i).append(" = ").append(i).append(" { ");
        }
        s.append("if n == 0 {} else { n -= 1; call p(n); n += 1; } fi n == 0; ");
        for (int i = 4; i >= 0; i--) {
            s.append("} delocal ").append(i).append("; ");
        }
        s.append("} main { ");
        for (int i = 0; i < inMain; i++) {
            s.append("local int m").append(i).append(" = 0 { ");
        }
        s.append("call p(n); ");
        return s.append("} delocal 0; ".repeat(inMain)).append("}").toString();
    }

    /** "9 ROOM: a 201st LOCAL": 39 times five, and five or six more; DELOCAL back makes a LOCAL, too. */
    private static void localsInAll() {
        for (int inMain = 4; inMain <= 6; inMain++) {
            String text = manyLocals(inMain);
            dueLocals(text, false, inMain <= 5, text.indexOf("local int k4"));
            dueLocals(text, true, inMain <= 5, text.indexOf("delocal 4"));
        }
    }

    private static void dueLocals(String text, boolean backwards, boolean isRoom, int place) {
        Mill m = Mill.of(text);
        m.mill.set(0, 0, 38);
        m.mill.begin(backwards);
        int done = m.mill.step(20000);
        Mill.due("state(0) of " + text, m.mill.state(0), isRoom ? 2 : 3);
        Mill.due("state(1) of " + text, m.mill.state(1), isRoom ? 0 : 9);
        Mill.due("state(2) of " + text, m.mill.state(2), isRoom ? JanusMill.NONE : place);
        Mill.due("state(7) of " + text, m.mill.state(7), isRoom ? 0 : 200);
        Mill.due("local(199) of " + text, m.mill.local(199) == Long.MIN_VALUE == isRoom);
        Mill.due("local(200) of " + text, m.mill.local(200), Long.MIN_VALUE);
        Mill.due("step(-20000) of " + text, m.mill.step(-20000), done);
    }

    /** "of DEEP, ROOM: behind e": a 201st LOCAL whose e fails. */
    private static void roomBehindEx() {
        // In the innermost procedure n is 0.
        for (String e : new String[] {"4", "4 / n"}) {
            Mill m = Mill.of(manyLocals(6).replace("local int k4 = 4", "local int k4 = " + e));
            m.mill.set(0, 0, 38);
            m.mill.begin(false);
            // Those of the procedures around fail where they are left, which is later.
            m.mill.step(20000);
            Mill.due("state(1) with e " + e, m.mill.state(1), e.equals("4") ? 9 : 3);
            Mill.due("state(7) with e " + e, m.mill.state(7), 200);
        }
    }

    private static final String ENDLESS = "long x; main { from x == 0 loop { x += 1; } until x < 0; }";

    /** "STEPS .. 0 .. 20000; it can't go back behind its beginning, nor on from its end, nor beyond 20000". */
    private static void steps() {
        Mill m = Mill.of(ENDLESS);
        m.mill.begin(false);
        Mill.due("step(-1) at 0", m.mill.step(-1), 0);
        Mill.due("step(19999)", m.mill.step(19999), 19999);
        Mill.due("state(3)", m.mill.state(3), 19999);
        Mill.due("step(1)", m.mill.step(1), 1);
        Mill.due("state(3)", m.mill.state(3), 20000);
        Mill.due("step(1) at 20000", m.mill.step(1), 0);
        Mill.due("state(0)", m.mill.state(0), 1);
        Mill.due("state(1)", m.mill.state(1), 0);
        Mill.due("state(3)", m.mill.state(3), 20000);
        Mill.due("step(-1)", m.mill.step(-1), 1);
        Mill.due("step(2)", m.mill.step(2), 1);
        Mill.due("step(-19999)", m.mill.step(-19999), 19999);
        Mill.due("state(3)", m.mill.state(3), 1);
        Mill.due("step(-2)", m.mill.step(-2), 1);
        Mill.due("state(3)", m.mill.state(3), 0);
        Mill.due("step(20000)", m.mill.step(20000), 20000);
        Mill.due("drop()", m.mill.drop(), 20000);
        m.mill.begin(false);
        Mill.due("state(3) of another one", m.mill.state(3), 0);
    }

    /** "RANGE: n is not -20000 .. 20000; STATE without a RUN". */
    private static void stepsAsked() {
        int[] refused = {-20001, 20001, Integer.MIN_VALUE, Integer.MIN_VALUE + 1, Integer.MAX_VALUE};
        int[] taken = {-20000, -19999, -1, 0, 1, 19999, 20000};
        Mill m = Mill.of(ENDLESS);
        for (int n : refused) {
            Mill.due("step(" + n + ") without a run", m.mill.step(n), JanusMill.RANGE);
        }
        for (int n : taken) {
            Mill.due("step(" + n + ") without a run", m.mill.step(n), JanusMill.STATE);
        }
        m.mill.begin(false);
        m.mill.step(7);
        String before = m.all();
        for (int n : refused) {
            Mill.due("step(" + n + ")", m.mill.step(n), JanusMill.RANGE);
            Mill.due("all behind step(" + n + ")", m.all(), before);
        }
        Mill.due("step(0)", m.mill.step(0), 0);
        Mill.due("all behind step(0)", m.all(), before);
    }

    /** "It has ENDED .. (at once, if main's block is empty)". */
    private static void endedAtOnce() {
        for (boolean backwards : new boolean[] {false, true}) {
            Mill m = Mill.of("int x; main {}");
            Mill.due("begin", m.mill.begin(backwards), 1);
            Mill.due("state(0)", m.mill.state(0), 2);
            Mill.due("state(4)", m.mill.state(4), 1);
            Mill.due("state(5)", m.mill.state(5), backwards ? 0 : 1);
            Mill.due("step(1)", m.mill.step(1), 0);
            Mill.due("step(-1)", m.mill.step(-1), 0);
            Mill.due("drop()", m.mill.drop(), 0);
            Mill one = Mill.of("int x; main { skip; }");
            one.mill.begin(backwards);
            Mill.due("state(0) of one", one.mill.state(0), 1);
            Mill.due("state(4) of one", one.mill.state(4), backwards ? 2 : 1);
            Mill.due("step(2) of one", one.mill.step(2), 1);
            Mill.due("state(0) of one", one.mill.state(0), 2);
            Mill.due("state(4) of one", one.mill.state(4), backwards ? 1 : 2);
            Mill.due("step(-1) of one", one.mill.step(-1), 1);
            Mill.due("state(0) of one", one.mill.state(0), 1);
        }
    }

    /** "come to the other one of these, with main's FRAME alone": a call as the last statement ends only when it is back. */
    private static void endedWithMainAlone() {
        Mill m = Mill.of("int x; proc p(int n) { n += 1; } main { call p(x); }");
        for (boolean backwards : new boolean[] {false, true}) {
            m.mill.begin(backwards);
            for (int k = 0; k < 3; k++) {
                Mill.due("state(0) behind " + k, m.mill.state(0), 1);
                Mill.due("step(1) behind " + k, m.mill.step(1), 1);
            }
            Mill.due("state(0) at the end", m.mill.state(0), 2);
            Mill.due("step(1) at the end", m.mill.step(1), 0);
        }
    }

    /** "3 the latest step() ended by a FAILURE": one that is refused does no STEP and ends by nothing, so that it leaves this. */
    private static void refusedStep() {
        Mill m = Mill.of("int x; main { x += 1; assert x == 2; }");
        m.mill.begin(false);
        Mill.due("step(5)", m.mill.step(5), 1);
        for (int n : new int[] {20001, -20001}) {
            Mill.due("step(" + n + ")", m.mill.step(n), JanusMill.RANGE);
            Mill.due("state(0)", m.mill.state(0), 3);
            Mill.due("state(1)", m.mill.state(1), 1);
            Mill.due("state(2)", m.mill.state(2), 22);
        }
        Mill.due("step(0)", m.mill.step(0), 0);
        Mill.due("state(0)", m.mill.state(0), 1);
        Mill.due("state(1)", m.mill.state(1), 0);
        Mill.due("state(2)", m.mill.state(2), JanusMill.NONE);
    }

    /** A FAILURE is forgotten with the next step(), begin() and drop(), and stays through all else. */
    private static void failureAndEnd() {
        Mill m = Mill.of("int x; main { x += 1; assert x == 2; }");
        m.mill.begin(false);
        m.mill.step(5);
        m.load("main {");
        m.mill.write(false);
        m.mill.set(0, 0, 1);
        Mill.due("state(0)", m.mill.state(0), 3);
        Mill.due("state(1)", m.mill.state(1), 1);
        Mill.due("step(-1)", m.mill.step(-1), 1);
        Mill.due("state(0)", m.mill.state(0), 1);
        Mill.due("state(1)", m.mill.state(1), 0);
        m.mill.step(5);
        Mill.due("begin(true)", m.mill.begin(true), 1);
        Mill.due("state(0)", m.mill.state(0), 1);
        Mill.due("state(2)", m.mill.state(2), JanusMill.NONE);
        m.mill.step(5);
        Mill.due("state(0)", m.mill.state(0), 3);
        Mill.due("drop()", m.mill.drop(), 0);
        Mill.due("state(0)", m.mill.state(0), 0);
        Mill.due("state(1)", m.mill.state(1), 0);
        Mill.due("state(2)", m.mill.state(2), JanusMill.NONE);
    }
}
