/** Of the Terms part II: ex and UPDATE, on numbers of four widths. */
public final class ExTest {
    public static void main(String[] args) {
        arithmetic();
        logic();
        precedence();
        namesInEx();
        highest();
        stackFirst();
        shortCut();
        updates();
        turns();
        products();
        Mill.finish();
    }

    /** Checks what an ex gives in 64 bits, with p = 7, n = -7, m = the least number. */
    private static void ex(String ex, long due) {
        Mill m = Mill.of("long x, p, n, m; int a[3]; stack int s[3]; main { x += " + ex + "; }");
        m.mill.set(1, 0, 7);
        m.mill.set(2, 0, -7);
        m.mill.set(3, 0, Long.MIN_VALUE);
        m.mill.set(4, 0, 10);
        m.mill.set(4, 1, 11);
        m.mill.set(4, 2, 2);
        m.mill.lay(5, 5);
        m.mill.lay(5, -6);
        m.mill.begin(false);
        Mill.due("step(1) for " + ex, m.mill.step(1), 1);
        Mill.due(ex, m.mill.value(0, 0), due);
        Mill.due("step(-1) for " + ex, m.mill.step(-1), 1);
        Mill.due("x behind step(-1) for " + ex, m.mill.value(0, 0), 0);
    }

    private static void arithmetic() {
        ex("p + n", 0);
        ex("m - 1", Long.MAX_VALUE);
        ex("m + m", 0);
        ex("m * n", Long.MIN_VALUE);
        ex("p * n", -49);
        ex("p / 2", 3);
        ex("n / 2", -3);
        ex("p / -2", -3);
        ex("n / -2", 3);
        ex("p % 2", 1);
        ex("n % 2", -1);
        ex("p % -2", 1);
        ex("n % -4", -3);
        ex("m / -1", Long.MIN_VALUE);
        ex("m % -1", 0);
        ex("-m", Long.MIN_VALUE);
        ex("-p", -7);
        ex("~p", -8);
        ex("p & 3", 3);
        ex("p | 8", 15);
        ex("p ^ n", 7L ^ -7L);
        ex("p << 62", 7L << 62);
        ex("1 << 64", 1);
        ex("1 << -1", Long.MIN_VALUE);
        ex("n >> 1", -4);
        ex("n >>> 1", -7L >>> 1);
        ex("n >>> 64", -7);
        ex("m >> 63", -1);
        ex("m >>> 63", 1);
        ex("999999999999999999", 999999999999999999L);
    }

    private static void logic() {
        ex("p == 7", 1);
        ex("p == n", 0);
        ex("p != n", 1);
        ex("p != 7", 0);
        ex("n < p", 1);
        ex("p < p", 0);
        ex("p <= p", 1);
        ex("p <= n", 0);
        ex("p > n", 1);
        ex("p > p", 0);
        ex("p >= p", 1);
        ex("n >= p", 0);
        ex("m < n", 1);
        ex("!p", 0);
        ex("!0", 1);
        ex("!!n", 1);
        ex("p && n", 1);
        ex("p && 0", 0);
        ex("0 && p", 0);
        ex("0 || n", 1);
        ex("0 || 0", 0);
        ex("n || 0", 1);
    }

    private static void precedence() {
        ex("1 + 2 * 3", 7);
        ex("(1 + 2) * 3", 9);
        ex("10 - 4 - 3", 3);
        ex("100 / 10 / 5", 2);
        ex("100 / 10 * 5 % 7", 1);
        ex("1 << 2 + 1", 8);
        ex("1 << 2 << 3", 32);
        ex("1 < 2 << 1", 1);
        ex("3 > 2 > 1", 0);
        ex("1 == 2 < 3", 1);
        ex("2 == 2 == 1", 1);
        ex("6 & 3 == 3", 0);
        ex("5 ^ 6 & 3", 7);
        ex("1 | 2 ^ 3", 1);
        ex("1 | 0 && 0", 0);
        ex("1 || 0 && 0", 1);
        ex("0 && 0 || 1", 1);
        ex("-1 + 2", 1);
        ex("-p * -p", 49);
        ex("~1 + 1", -1);
        ex("!0 + 1", 2);
        ex("- - -p", -7);
        ex("!p == 0", 1);
        ex("-a[2] + 1", -1);
        ex("1 - -1", 2);
    }

    private static void namesInEx() {
        ex("a[0] + a[1] * a[2]", 32);
        ex("a[a[2]]", 2);
        ex("a[a[2] - 1]", 11);
        ex("size(a)", 3);
        ex("size(s)", 2);
        ex("top(s)", -6);
        ex("empty(s)", 0);
        ex("a[size(s)]", 2);
    }

    /** An ex of sixteen PARTS in one another is worked out to the last of them. */
    private static void highest() {
        ex("1" + "+1".repeat(15), 16);
        ex("-".repeat(15) + "p", -7);
        ex("-".repeat(14) + "a[1]", 11);
        ex("1-(2-(3-(4-(5-(6-(7-(8-(9-(10-(11-(12-(13-(14-(15-16))))))))))))))", -8);
        ex("p && ".repeat(15) + "n", 1);
        ex("0 || ".repeat(15) + "n", 1);
        ex("n" + " || 0".repeat(15), 1);
        ex("0 || (".repeat(15) + "n" + ")".repeat(15), 1);
        ex("!".repeat(15) + "0", 1);
        ex("~".repeat(15) + "0", -1);
        ex("a[".repeat(15) + "2" + "]".repeat(15), 2);
        ex("1&&(1&&(1&&(1&&(1&&(1&&(1&&(1&&(1&&(1&&(1&&(1&&(1&&(1&&(1&&n))))))))))))))", 1);
    }

    private static void stackFirst() {
        Mill m = Mill.of("stack int s[2]; int x; main { push x, s; x += top(s) + size(s) * 10 + empty(s) * 100; push x, s; pop x, s; }");
        m.mill.set(1, 0, 5);
        Mill.due("a stack that is declared first", m.run(false), "5 15");
        Mill.due("ended", m.mill.state(0), 2);
    }

    private static void shortCut() {
        ex("p || 1 / 0", 1);
        ex("0 && 1 / 0", 0);
        ex("0 && a[9]", 0);
        ex("p || a[9] || 1 / 0", 1);
    }

    /** Checks one statement on a number of some width, and that a STEP back undoes it. */
    private static void update(String kind, long x, String change, long due) {
        Mill m = Mill.of(kind + " x; long e; main { x " + change + "; }");
        m.mill.set(0, 0, x);
        m.mill.set(1, 0, -3);
        m.mill.begin(false);
        Mill.due("step(1) of " + kind + " " + change, m.mill.step(1), 1);
        Mill.due(kind + " " + x + " " + change, m.mill.value(0, 0), due);
        Mill.due("step(-1)", m.mill.step(-1), 1);
        Mill.due("x again", m.mill.value(0, 0), x);
        m.mill.drop();
        m.mill.set(0, 0, due);
        m.mill.begin(true);
        Mill.due("step(1) backwards", m.mill.step(1), 1);
        Mill.due("x backwards of " + kind + " " + change, m.mill.value(0, 0), x);
    }

    private static void updates() {
        update("byte", 100, "+= 100", -56);
        update("byte", -100, "-= 100", 56);
        update("byte", 0, "+= 1 << 40", 0);
        update("byte", 5, "^= 255", -6);
        update("byte", 5, "^= -1", -6);
        update("short", 32767, "+= 1", -32768);
        update("short", 0, "-= 40000", 25536);
        update("int", Integer.MIN_VALUE, "-= 1", Integer.MAX_VALUE);
        update("int", 6, "^= 3 << 32", 6);
        update("long", Long.MAX_VALUE, "+= 1", Long.MIN_VALUE);
        update("long", 1, "-= e", 4);
    }

    private static void turns() {
        update("byte", 1, "<<= 7", -128);
        update("byte", -128, "<<= 1", 1);
        update("byte", -127, "<<= 1", 3);
        update("byte", 3, ">>= 1", -127);
        update("byte", 3, ">>= 9", -127);
        update("byte", 77, "<<= 8", 77);
        update("byte", 77, "<<= 0", 77);
        update("byte", 1, "<<= e", 32);
        update("byte", 1, ">>= e", 8);
        update("short", 1, "<<= 15", -32768);
        update("short", 0x1234, "<<= 20", 0x2341);
        update("short", 0x1234, ">>= 20", 0x4123);
        update("int", 0x12345678, "<<= 8", 0x34567812);
        update("int", 0x12345678, ">>= 40", 0x78123456);
        update("int", 1, "<<= e", 1 << 29);
        update("long", 1, "<<= 63", Long.MIN_VALUE);
        update("long", Long.MIN_VALUE, "<<= 65", 1);
        update("long", 0x123456789abcdef0L, ">>= 4", 0x0123456789abcdefL);
        update("long", 1, ">>= 1", Long.MIN_VALUE);
        update("long", 1, ">>= e", 8);
    }

    private static void products() {
        update("byte", 100, "*= 3", 44);
        update("byte", 44, "/= 3", 100);
        update("byte", 1, "/= 3", -85);
        update("byte", 7, "*= 257", 7);
        update("short", 12345, "*= 999", (short) (12345 * 999));
        update("int", 123456789, "*= 987654321", 123456789 * 987654321);
        update("int", 1, "/= 5", -858993459);
        update("long", 3, "*= 999999999999999999", 3 * 999999999999999999L);
        update("long", 999999999999999999L, "/= 999999999999999999", 1);
        update("long", 1, "/= 3", -6148914691236517205L);
        update("long", -1, "*= 1", -1);
    }
}
