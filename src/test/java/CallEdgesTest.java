/** Promises 1 to 20, call by call: the numbers that can be given, the first and the last of them, and one step beyond each. */
public final class CallEdgesTest {
    private static final int[] FAR = {Integer.MIN_VALUE, Integer.MIN_VALUE + 1, -2, -1, 1 << 20, Integer.MAX_VALUE - 1, Integer.MAX_VALUE};
    private static final String TEXT = "byte b; int row[3]; stack short s[2]; proc p(int x) { local int k = 4 { x += k; } delocal 4; }"
        + "proc q() {} main { local int k = 1 { call p(k); } delocal 5; row[1] += 2; }";

    public static void main(String[] args) {
        constants();
        newObject();
        feeds();
        feedsByBytes();
        ends();
        loads();
        loadWithinRun();
        faults();
        variables();
        values();
        sizes();
        sets();
        lays();
        begins();
        drops();
        states();
        framesAndLocals();
        codes();
        writes();
        writesLeaveAll();
        outs();
        counts();
        Mill.finish();
    }

    private static void constants() {
        Mill.due("NONE", JanusMill.NONE, -1);
        Mill.due("RANGE", JanusMill.RANGE, -2);
        Mill.due("STATE", JanusMill.STATE, -3);
        Mill.due("FULL", JanusMill.FULL, -4);
    }

    /** Promise 1: "No program (nothing declared, no CODE), no RUN", and the same again behind a text that is wrong. */
    private static void newObject() {
        Mill m = new Mill();
        for (int round = 0; round < 2; round++) {
            Mill.due("count(1)", m.mill.count(1), 0);
            Mill.due("count(2)", m.mill.count(2), 0);
            Mill.due("count(3)", m.mill.count(3), 0);
            Mill.due("count(4)", m.mill.count(4), 0);
            Mill.due("code(0, 0)", m.mill.code(0, 0), JanusMill.NONE);
            Mill.due("variable(0, 0)", m.mill.variable(0, 0), JanusMill.NONE);
            Mill.due("size(0)", m.mill.size(0), JanusMill.NONE);
            Mill.due("set(0, 0, 0)", m.mill.set(0, 0, 0), JanusMill.NONE);
            Mill.due("lay(0, 0)", m.mill.lay(0, 0), JanusMill.NONE);
            Mill.due("begin(false)", m.mill.begin(false), JanusMill.STATE);
            Mill.due("begin(true)", m.mill.begin(true), JanusMill.STATE);
            Mill.due("drop()", m.mill.drop(), JanusMill.STATE);
            Mill.due("step(0)", m.mill.step(0), JanusMill.STATE);
            Mill.due("write(false)", m.mill.write(false), JanusMill.STATE);
            Mill.due("state(0)", m.mill.state(0), 0);
            Mill.due("load()", m.load("int x, y; proc p() {} main { skip; x += 1; } }"), JanusMill.NONE);
        }
    }

    /** Promise 2: "FULL when there would be more than 4000": 3980 bytes and twenty, 3981 and twenty, 4000 and twenty. */
    private static void feeds() {
        Mill m = new Mill();
        for (int i = 1; i <= 199; i++) {
            Mill.due("feed " + i, m.mill.feed(1, 2, 3, 4, 5), 20 * i);
        }
        Mill.due("feed at 3980", m.mill.feed(0, 0, 0, 0, 0), 4000);
        for (int length : new int[] {4000, 3999, 3981}) {
            Mill.due("end(" + length + ")", m.mill.end(length), length);
            Mill.due("feed at " + length, m.mill.feed(0, 0, 0, 0, 0), JanusMill.FULL);
            Mill.due("count(0)", m.mill.count(0), length);
        }
        Mill.due("end(3980)", m.mill.end(3980), 3980);
        Mill.due("feed at 3980", m.mill.feed(0, 0, 0, 0, 0), 4000);
        Mill.due("end(3979)", m.mill.end(3979), 3979);
        Mill.due("feed at 3979", m.mill.feed(0, 0, 0, 0, 0), 3999);
    }

    /** "Twenty bytes .., the highest of each int first", at each of the twenty places. */
    private static void feedsByBytes() {
        for (int at = 0; at + 6 <= 20; at++) {
            int[] ints = new int[5];
            for (int i = 0; i < 20; i++) {
                int b = i >= at && i < at + 6 ? "main{}".charAt(i - at) : ' ';
                ints[i / 4] |= b << (24 - 8 * (i % 4));
            }
            JanusMill x = new JanusMill();
            Mill.due("feed", x.feed(ints[0], ints[1], ints[2], ints[3], ints[4]), 20);
            Mill.due("load()", x.load(), 2);
            Mill.due("code(0, 1)", x.code(0, 1), at);
            Mill.due("code(1, 1)", x.code(1, 1), at + 5);
        }
        // Bytes with their highest bit.
        for (int b = 128; b < 256; b++) {
            JanusMill x = new JanusMill();
            x.feed(0x6d61696e, 0x7b7d2000 | b, 0x20202020, 0x20202020, 0x20202020);
            Mill.due("load() with " + b, x.load(), JanusMill.NONE);
            Mill.due("fault(1) with " + b, x.fault(1), 7);
        }
    }

    /** Promise 3: "NONE when it has not so many, or n is below 0". */
    private static void ends() {
        JanusMill x = new JanusMill();
        Mill.due("end(0) of none", x.end(0), 0);
        Mill.due("end(1) of none", x.end(1), JanusMill.NONE);
        x.feed(0x6d61696e, 0x7b7d2020, 0x20202020, 0x20202020, 0x20202020);
        for (int n : FAR) {
            Mill.due("end(" + n + ")", x.end(n), JanusMill.NONE);
            Mill.due("count(0)", x.count(0), 20);
        }
        Mill.due("end(21)", x.end(21), JanusMill.NONE);
        Mill.due("end(20)", x.end(20), 20);
        Mill.due("end(19)", x.end(19), 19);
        Mill.due("end(20) then", x.end(20), JanusMill.NONE);
        Mill.due("end(1)", x.end(1), 1);
        Mill.due("end(0)", x.end(0), 0);
        Mill.due("load()", x.load(), JanusMill.NONE);
        // What comes then stands behind what is left.
        x.feed(0x6d61696e, 0x7b7d2020, 0x20202020, 0x20202020, 0x20202020);
        x.end(4);
        Mill.due("feed", x.feed(0x7b7d2020, 0x20202020, 0x20202020, 0x20202020, 0x20202020), 24);
        Mill.due("load()", x.load(), 2);
    }

    /** Promise 4: "all is as at first but for it (and OUT, which stays), and there is no RUN". */
    private static void loads() {
        Mill m = Mill.of(TEXT);
        m.mill.set(0, 0, 3);
        m.mill.lay(2, 4);
        m.mill.begin(false);
        m.mill.step(3);
        m.mill.write(false);
        String out = m.out();
        Mill.due("load()", m.load(TEXT), 13);
        Mill.due("numbers", m.numbers(), "0 0,0,0 -");
        Mill.due("state(0)", m.mill.state(0), 0);
        Mill.due("state(3)", m.mill.state(3), 0);
        Mill.due("state(6)", m.mill.state(6), 0);
        Mill.due("state(7)", m.mill.state(7), 0);
        Mill.due("local(0)", m.mill.local(0), Long.MIN_VALUE);
        Mill.due("frame(0, 2)", m.mill.frame(0, 2), JanusMill.NONE);
        Mill.due("out", m.out(), out);
        Mill.due("count(0)", m.mill.count(0), 0);
    }

    /** "NONE with a FAULT: all that there was stays": also within a RUN, which goes on. */
    private static void loadWithinRun() {
        Mill m = Mill.of(TEXT);
        m.mill.begin(false);
        m.mill.step(4);
        String before = m.all();
        String codes = codesOf(m);
        for (String wrong : new String[] {"", "main", "int b; main { b += 1; b += b; }", "byte c[5]; proc z() {} proc y() {} proc x() {} main { call w(); }"}) {
            Mill.due("load()", m.load(wrong), JanusMill.NONE);
            Mill.due("all", m.all(), before);
            Mill.due("codes", codesOf(m), codes);
            Mill.due("count(0)", m.mill.count(0), wrong.length());
        }
        Mill.due("step(20000)", m.mill.step(20000), 4);
        Mill.due("state(0)", m.mill.state(0), 2);
        Mill.due("numbers", m.numbers(), "0 0,2,0 -");
        Mill.due("step(-20000)", m.mill.step(-20000), 8);
    }

    private static String codesOf(Mill m) {
        StringBuilder s = new StringBuilder();
        for (int i = 0; i < m.mill.count(3); i++) {
            s.append(m.mill.code(i, 0)).append(',').append(m.mill.code(i, 1)).append(',').append(m.mill.code(i, 2)).append(' ');
        }
        return s.append(m.mill.count(1)).append(m.mill.count(2)).append(m.mill.count(4)).toString();
    }

    /** Promise 5: "what 0 .. 1 .. NONE for another what". */
    private static void faults() {
        Mill m = new Mill();
        String[] texts = {"main {}", "main { x += 1; }", "main {}"};
        int[] kinds = {0, 2, 0};
        int[] places = {JanusMill.NONE, 7, JanusMill.NONE};
        Mill.due("fault(0) ahead of any", m.mill.fault(0), 0);
        Mill.due("fault(1) ahead of any", m.mill.fault(1), JanusMill.NONE);
        for (int i = 0; i < texts.length; i++) {
            m.load(texts[i]);
            Mill.due("fault(0)", m.mill.fault(0), kinds[i]);
            Mill.due("fault(1)", m.mill.fault(1), places[i]);
            Mill.due("fault(2)", m.mill.fault(2), JanusMill.NONE);
            for (int what : FAR) {
                Mill.due("fault(" + what + ")", m.mill.fault(what), JanusMill.NONE);
            }
        }
    }

    /** Promise 6: "NONE when there is none such". */
    private static void variables() {
        Mill m = Mill.of(TEXT);
        int[][] due = {{0, 8, 1, 1}, {1, 32, 3, 3}, {2, 16, 2, 1}};
        String[] names = {"b", "row", "s"};
        for (int v = 0; v < 3; v++) {
            for (int what = -3; what < 24; what++) {
                int answer = JanusMill.NONE;
                if (what >= 0 && what <= 3) {
                    answer = due[v][what];
                } else if (what >= 10 && what < 10 + names[v].length()) {
                    answer = names[v].charAt(what - 10);
                }
                Mill.due("variable(" + v + ", " + what + ")", m.mill.variable(v, what), answer);
            }
            for (int what : FAR) {
                Mill.due("variable(" + v + ", " + what + ")", m.mill.variable(v, what), JanusMill.NONE);
            }
        }
        for (int what = 0; what < 12; what++) {
            Mill.due("variable(3, " + what + ")", m.mill.variable(3, what), JanusMill.NONE);
            for (int v : FAR) {
                Mill.due("variable(" + v + ", " + what + ")", m.mill.variable(v, what), JanusMill.NONE);
            }
        }
    }

    /** Promise 7: "Long.MIN_VALUE when there is none such (see size())". */
    private static void values() {
        Mill m = Mill.of(TEXT);
        m.mill.set(0, 0, 5);
        m.mill.set(1, 0, 10);
        m.mill.set(1, 2, 12);
        long[][] due = {{5}, {10, 0, 12}, {}};
        for (int height = 0; height <= 2; height++) {
            for (int v = 0; v < 3; v++) {
                for (int i = 0; i < 4; i++) {
                    Mill.due("value(" + v + ", " + i + ")", m.mill.value(v, i), i < due[v].length ? due[v][i] : Long.MIN_VALUE);
                }
                for (int i : FAR) {
                    Mill.due("value(" + v + ", " + i + ")", m.mill.value(v, i), Long.MIN_VALUE);
                    Mill.due("value(" + i + ", 0)", m.mill.value(i, 0), Long.MIN_VALUE);
                }
            }
            Mill.due("value(3, 0)", m.mill.value(3, 0), Long.MIN_VALUE);
            m.mill.lay(2, 20 + height);
            due[2] = height == 0 ? new long[] {20} : new long[] {20, 21};
        }
    }

    /** Promise 8: "How many numbers it has now; NONE." */
    private static void sizes() {
        Mill m = Mill.of(TEXT);
        for (int height = 0; height <= 2; height++) {
            Mill.due("size(0)", m.mill.size(0), 1);
            Mill.due("size(1)", m.mill.size(1), 3);
            Mill.due("size(2)", m.mill.size(2), height);
            Mill.due("size(3)", m.mill.size(3), JanusMill.NONE);
            m.mill.lay(2, 1);
        }
        Mill.due("size(2)", m.mill.size(2), 2);
        for (int v : FAR) {
            Mill.due("size(" + v + ")", m.mill.size(v), JanusMill.NONE);
        }
    }

    /** Promise 9: "Number i of a SCALAR or ROW becomes x (its lowest bits): 1. NONE ..; STATE when there is a RUN." */
    private static void sets() {
        Mill m = Mill.of(TEXT);
        for (int i : FAR) {
            Mill.due("set(0, " + i + ", 1)", m.mill.set(0, i, 1), JanusMill.NONE);
            Mill.due("set(1, " + i + ", 1)", m.mill.set(1, i, 1), JanusMill.NONE);
            Mill.due("set(" + i + ", 0, 1)", m.mill.set(i, 0, 1), JanusMill.NONE);
        }
        Mill.due("set(0, 1, 1)", m.mill.set(0, 1, 1), JanusMill.NONE);
        Mill.due("set(1, 3, 1)", m.mill.set(1, 3, 1), JanusMill.NONE);
        Mill.due("set(3, 0, 1)", m.mill.set(3, 0, 1), JanusMill.NONE);
        m.mill.lay(2, 1);
        Mill.due("set(2, 0, 1) of a STACK", m.mill.set(2, 0, 1), JanusMill.NONE);
        Mill.due("numbers", m.numbers(), "0 0,0,0 1");
        for (long x : new long[] {127, 128, 255, 256, -128, -129, Long.MIN_VALUE, Long.MAX_VALUE}) {
            Mill.due("set(0, 0, " + x + ")", m.mill.set(0, 0, x), 1);
            Mill.due("value(0, 0)", m.mill.value(0, 0), (byte) x);
            Mill.due("set(1, 2, " + x + ")", m.mill.set(1, 2, x), 1);
            Mill.due("value(1, 2)", m.mill.value(1, 2), (int) x);
        }
        m.mill.begin(false);
        Mill.due("set(0, 0, 1) in a run", m.mill.set(0, 0, 1), JanusMill.STATE);
        Mill.due("set(1, 2, 1) in a run", m.mill.set(1, 2, 1), JanusMill.STATE);
        Mill.due("numbers", m.numbers(), "-1 0,0,-1 1");
        m.mill.drop();
        Mill.due("set(0, 0, 1)", m.mill.set(0, 0, 1), 1);
    }

    /** Promise 10: "x (its lowest bits) comes on a STACK: how many it has. NONE: no such STACK; STATE likewise; FULL." */
    private static void lays() {
        for (int most : new int[] {1, 2, 40}) {
            Mill m = Mill.of("int x; int a[1]; stack short s[" + most + "]; main {}");
            Mill.due("lay(0, 1)", m.mill.lay(0, 1), JanusMill.NONE);
            Mill.due("lay(1, 1)", m.mill.lay(1, 1), JanusMill.NONE);
            Mill.due("lay(3, 1)", m.mill.lay(3, 1), JanusMill.NONE);
            for (int v : FAR) {
                Mill.due("lay(" + v + ", 1)", m.mill.lay(v, 1), JanusMill.NONE);
            }
            for (int n = 1; n <= most; n++) {
                Mill.due("lay(2, " + (32766 + n) + ")", m.mill.lay(2, 32766 + n), n);
                Mill.due("value(2, " + (n - 1) + ")", m.mill.value(2, n - 1), (short) (32766 + n));
            }
            Mill.due("lay(2, 9) of a full one", m.mill.lay(2, 9), JanusMill.FULL);
            Mill.due("size(2)", m.mill.size(2), most);
            m.mill.begin(false);
            Mill.due("lay(2, 9) in a run", m.mill.lay(2, 9), JanusMill.STATE);
            m.mill.drop();
            Mill.due("lay(2, 9) of a full one", m.mill.lay(2, 9), JanusMill.FULL);
        }
    }

    /** Promise 11: "A RUN begins, with all numbers as they are (one that there was is no more, its LOCALS, too)". */
    private static void begins() {
        Mill m = Mill.of(TEXT);
        m.mill.set(1, 1, 7);
        Mill.due("begin(false)", m.mill.begin(false), 1);
        m.mill.step(3);
        Mill.due("state(7)", m.mill.state(7), 2);
        Mill.due("state(6)", m.mill.state(6), 2);
        Mill.due("begin(false) again", m.mill.begin(false), 1);
        Mill.due("all", m.all(), "0 0,7,0 - |0 |8 |1 |1 |0 (-1 -1 0)");
        m.mill.step(20000);
        Mill.due("numbers", m.numbers(), "0 0,9,0 -");
        Mill.due("begin(true) at the end", m.mill.begin(true), 1);
        Mill.due("all", m.all(), "0 0,9,0 - |0 |12 |0 |1 |0 (-1 -1 0)");
        Mill.due("step(-1) behind its beginning", m.mill.step(-1), 0);
    }

    /** Promise 12: "There is no RUN (numbers stay, LOCALS are gone): how many STEPS it had; STATE without one." */
    private static void drops() {
        Mill m = Mill.of(TEXT);
        Mill.due("drop()", m.mill.drop(), JanusMill.STATE);
        for (int n = 0; n <= 8; n++) {
            m.mill.begin(false);
            m.mill.step(n);
            Mill.due("drop() behind " + n, m.mill.drop(), n);
            Mill.due("drop() again", m.mill.drop(), JanusMill.STATE);
            Mill.due("state(7)", m.mill.state(7), 0);
            Mill.due("state(6)", m.mill.state(6), 0);
            Mill.due("local(0)", m.mill.local(0), Long.MIN_VALUE);
            Mill.due("step(-1)", m.mill.step(-1), JanusMill.STATE);
        }
        Mill.due("numbers", m.numbers(), "0 0,2,0 -");
    }

    /** Promise 14: each what with and without a RUN; "NONE for another what". */
    private static void states() {
        Mill m = Mill.of(TEXT);
        int[] without = {0, 0, JanusMill.NONE, 0, JanusMill.NONE, JanusMill.NONE, 0, 0};
        int[] begun = {1, 0, JanusMill.NONE, 0, 8, 1, 1, 0};
        int[] within = {1, 0, JanusMill.NONE, 3, 2, 1, 2, 2};
        int[] ended = {2, 0, JanusMill.NONE, 8, 12, 1, 1, 0};
        dueStates(m, without);
        m.mill.begin(false);
        dueStates(m, begun);
        m.mill.step(3);
        dueStates(m, within);
        m.mill.step(9);
        dueStates(m, ended);
        m.mill.drop();
        dueStates(m, without);
    }

    private static void dueStates(Mill m, int[] due) {
        for (int what = 0; what < 8; what++) {
            Mill.due("state(" + what + ")", m.mill.state(what), due[what]);
        }
        Mill.due("state(8)", m.mill.state(8), JanusMill.NONE);
        for (int what : FAR) {
            Mill.due("state(" + what + ")", m.mill.state(what), JanusMill.NONE);
        }
    }

    /** Promises 15 and 16: the first and the last FRAME and LOCAL, and one step beyond. */
    private static void framesAndLocals() {
        Mill m = Mill.of(TEXT);
        m.mill.begin(false);
        m.mill.step(3);
        int[][] frames = {{JanusMill.NONE, JanusMill.NONE, 0}, {0, 9, 1}};
        for (int what = -1; what <= 3; what++) {
            for (int k = 0; k < 2; k++) {
                Mill.due("frame(" + k + ", " + what + ")", m.mill.frame(k, what), what < 0 || what > 2 ? JanusMill.NONE : frames[k][what]);
            }
            Mill.due("frame(2, " + what + ")", m.mill.frame(2, what), JanusMill.NONE);
            for (int k : FAR) {
                Mill.due("frame(" + k + ", " + what + ")", m.mill.frame(k, what), JanusMill.NONE);
                Mill.due("frame(1, " + k + ")", m.mill.frame(1, k), JanusMill.NONE);
            }
        }
        Mill.due("local(0)", m.mill.local(0), 1);
        Mill.due("local(1)", m.mill.local(1), 4);
        Mill.due("local(2)", m.mill.local(2), Long.MIN_VALUE);
        for (int i : FAR) {
            Mill.due("local(" + i + ")", m.mill.local(i), Long.MIN_VALUE);
        }
        m.mill.step(1);
        Mill.due("local(0) through the param", m.mill.local(0), 5);
        m.mill.step(1);
        Mill.due("local(1) is gone", m.mill.local(1), Long.MIN_VALUE);
    }

    /** Promise 17: the first and the last INSTRUCTION; "NONE when there is none such". */
    private static void codes() {
        Mill m = Mill.of(TEXT);
        int last = m.mill.count(3) - 1;
        Mill.due("code(0, 0)", m.mill.code(0, 0), 1);
        Mill.due("code(0, 1)", m.mill.code(0, 1), TEXT.indexOf("proc p"));
        Mill.due("code(0, 2)", m.mill.code(0, 2), 4);
        Mill.due("code(last, 0)", m.mill.code(last, 0), 2);
        Mill.due("code(last, 1)", m.mill.code(last, 1), TEXT.lastIndexOf('}'));
        Mill.due("code(last, 2)", m.mill.code(last, 2), 7);
        for (int what = -1; what <= 3; what++) {
            Mill.due("code(last + 1, " + what + ")", m.mill.code(last + 1, what), JanusMill.NONE);
            for (int i : FAR) {
                Mill.due("code(" + i + ", " + what + ")", m.mill.code(i, what), JanusMill.NONE);
                Mill.due("code(1, " + i + ")", m.mill.code(1, i), JanusMill.NONE);
            }
        }
        Mill.due("code(0, 3)", m.mill.code(0, 3), JanusMill.NONE);
    }

    /** Promise 18: "OUT becomes the program .. STATE without a program", and a shorter text leaves nothing of a longer one. */
    private static void writes() {
        Mill m = new Mill();
        Mill.due("write(false)", m.mill.write(false), JanusMill.STATE);
        m.load("main { x }");
        Mill.due("write(true)", m.mill.write(true), JanusMill.STATE);
        Mill.due("out(0)", m.mill.out(0), JanusMill.NONE);
        m.load("main { skip; skip; }");
        Mill.due("write(false)", m.mill.write(false), 23);
        m.load("main {}");
        Mill.due("write(true)", m.mill.write(true), 9);
        Mill.due("out", m.out(), "main {\n}\n");
        Mill.due("out(9)", m.mill.out(9), JanusMill.NONE);
        Mill.due("out(22)", m.mill.out(22), JanusMill.NONE);
    }

    /** write() touches nothing but OUT, also within a RUN. */
    private static void writesLeaveAll() {
        Mill m = Mill.of(TEXT);
        m.mill.begin(true);
        m.mill.step(3);
        m.tape("main {");
        String before = m.all() + codesOf(m) + m.mill.count(0);
        m.mill.write(true);
        m.mill.write(false);
        Mill.due("all", m.all() + codesOf(m) + m.mill.count(0), before);
        Mill.due("step(20000)", m.mill.step(20000), 5);
        Mill.due("state(0)", m.mill.state(0), 2);
    }

    /** Promise 19: "Byte i of OUT (empty at first); NONE." */
    private static void outs() {
        Mill m = Mill.of("main {}");
        Mill.due("out(0) at first", m.mill.out(0), JanusMill.NONE);
        m.mill.write(false);
        String due = "main {\n}\n";
        for (int i = 0; i < 12; i++) {
            Mill.due("out(" + i + ")", m.mill.out(i), i < due.length() ? due.charAt(i) : JanusMill.NONE);
        }
        for (int i : FAR) {
            Mill.due("out(" + i + ")", m.mill.out(i), JanusMill.NONE);
        }
        for (int i : new int[] {3999, 4000, 11999, 12000, 12001}) {
            Mill.due("out(" + i + ")", m.mill.out(i), JanusMill.NONE);
        }
    }

    /** Promise 20: "NONE for another what". */
    private static void counts() {
        Mill m = Mill.of(TEXT);
        m.tape("abc");
        int[] due = {3, 3, 2, 13, 7};
        for (int what = 0; what < 5; what++) {
            Mill.due("count(" + what + ")", m.mill.count(what), due[what]);
        }
        Mill.due("count(5)", m.mill.count(5), JanusMill.NONE);
        for (int what : FAR) {
            Mill.due("count(" + what + ")", m.mill.count(what), JanusMill.NONE);
        }
    }
}
