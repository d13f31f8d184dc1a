/** Promises 11 to 16, and of the Terms part II: a RUN, its STEPS on and back, FRAMES, LOCALS and failures. */
public final class RunTest {
    public static void main(String[] args) {
        beginAndDrop();
        stepRanges();
        mostSteps();
        emptyMain();
        conditional();
        conditionalTests();
        loop();
        loopTests();
        locals();
        localsLeft();
        calls();
        uncalls();
        uncallWithinUncall();
        argumentsThemselves();
        stacks();
        stackFailures();
        failures();
        failuresChangeNothing();
        failureIsForgotten();
        orderWithinStatements();
        deep();
        room();
        backwards();
        Mill.finish();
    }

    private static void state(Mill m, String when, int... due) {
        for (int what = 0; what < due.length; what++) {
            Mill.due("state(" + what + ") " + when, m.mill.state(what), due[what]);
        }
    }

    private static void beginAndDrop() {
        Mill m = Mill.of("int x; main { x += 1; local int k = 5 { skip; } delocal 5; }");
        m.mill.set(0, 0, 7);
        Mill.due("drop() without a run", m.mill.drop(), JanusMill.STATE);
        state(m, "without a run", 0, 0, -1, 0, -1, -1, 0, 0, -1);
        Mill.due("begin(false)", m.mill.begin(false), 1);
        state(m, "at the beginning", 1, 0, -1, 0, 1, 1, 1, 0, -1);
        Mill.due("state(-1)", m.mill.state(-1), JanusMill.NONE);
        Mill.due("step(2)", m.mill.step(2), 2);
        state(m, "behind local", 1, 0, -1, 2, 3, 1, 1, 1);
        Mill.due("local(0)", m.mill.local(0), 5);
        Mill.due("local(1)", m.mill.local(1), Long.MIN_VALUE);
        Mill.due("local(-1)", m.mill.local(-1), Long.MIN_VALUE);
        Mill.due("drop()", m.mill.drop(), 2);
        state(m, "behind drop()", 0, 0, -1, 0, -1, -1, 0, 0, -1);
        Mill.due("local(0)", m.mill.local(0), Long.MIN_VALUE);
        Mill.due("frame(0, 2)", m.mill.frame(0, 2), JanusMill.NONE);
        Mill.due("drop() again", m.mill.drop(), JanusMill.STATE);
        Mill.due("step(1)", m.mill.step(1), JanusMill.STATE);
        Mill.due("numbers stay", m.numbers(), "8");
        m.mill.begin(false);
        m.mill.step(2);
        Mill.due("begin(true) ends the one that there was", m.mill.begin(true), 1);
        state(m, "backwards", 1, 0, -1, 0, 5, 0, 1, 0);
        Mill.due("local(0)", m.mill.local(0), Long.MIN_VALUE);
        Mill.due("numbers stay", m.numbers(), "9");
        Mill.due("step(20000)", m.mill.step(20000), 4);
        Mill.due("numbers", m.numbers(), "8");
        state(m, "at the end", 2, 0, -1, 4, 1, 0, 1, 0);
        Mill.due("drop()", m.mill.drop(), 4);
    }

    private static void stepRanges() {
        Mill m = Mill.of("int x; main { x += 1; x += 1; x += 1; }");
        Mill.due("step(20001) without a run", m.mill.step(20001), JanusMill.RANGE);
        Mill.due("step(-20001) without a run", m.mill.step(-20001), JanusMill.RANGE);
        Mill.due("step(20000) without a run", m.mill.step(20000), JanusMill.STATE);
        m.mill.begin(false);
        Mill.due("step(20001)", m.mill.step(20001), JanusMill.RANGE);
        Mill.due("step(MAX)", m.mill.step(Integer.MAX_VALUE), JanusMill.RANGE);
        Mill.due("step(MIN)", m.mill.step(Integer.MIN_VALUE), JanusMill.RANGE);
        Mill.due("step(-1) at the beginning", m.mill.step(-1), 0);
        Mill.due("step(0)", m.mill.step(0), 0);
        Mill.due("step(2)", m.mill.step(2), 2);
        Mill.due("step(2)", m.mill.step(2), 1);
        Mill.due("step(1) at the end", m.mill.step(1), 0);
        Mill.due("x", m.mill.value(0, 0), 3);
        Mill.due("step(-20000)", m.mill.step(-20000), 3);
        Mill.due("x", m.mill.value(0, 0), 0);
        Mill.due("step(20000)", m.mill.step(20000), 3);
        Mill.due("state(0)", m.mill.state(0), 2);
    }

    private static void mostSteps() {
        Mill m = Mill.of("long x; main { from x == 0 loop { x += 1; } until 0; }");
        m.mill.begin(false);
        Mill.due("step(19999)", m.mill.step(19999), 19999);
        Mill.due("step(2)", m.mill.step(2), 1);
        state(m, "at 20000", 1, 0, -1, 20000);
        Mill.due("step(20000)", m.mill.step(20000), 0);
        Mill.due("step(-5)", m.mill.step(-5), 5);
        Mill.due("step(20000)", m.mill.step(20000), 5);
        Mill.due("step(-20000)", m.mill.step(-20000), 20000);
        state(m, "at the beginning", 1, 0, -1, 0, 1);
        Mill.due("x", m.mill.value(0, 0), 0);
        Mill.due("drop()", m.mill.drop(), 0);
    }

    private static void emptyMain() {
        Mill m = Mill.of("proc p() {} main {}");
        m.mill.begin(false);
        state(m, "of an empty main", 2, 0, -1, 0, 3, 1, 1, 0);
        Mill.due("step(1)", m.mill.step(1), 0);
        m.mill.begin(true);
        state(m, "of an empty main backwards", 2, 0, -1, 0, 3, 0, 1, 0);
        Mill.due("step(1)", m.mill.step(1), 0);
        Mill.due("step(-1)", m.mill.step(-1), 0);
    }

    /** Checks the POSITIONS of a run, one STEP each, and that the same ones come as it is taken back. */
    private static void positions(Mill m, boolean backwards, int... due) {
        m.mill.begin(backwards);
        String[] all = new String[due.length];
        for (int k = 0; k < due.length; k++) {
            if (k > 0) {
                Mill.due("step(1) number " + k, m.mill.step(1), 1);
            }
            Mill.due("position behind " + k, m.mill.state(4), due[k]);
            all[k] = m.all();
        }
        Mill.due("state(0) at the end", m.mill.state(0), 2);
        Mill.due("step(1) at the end", m.mill.step(1), 0);
        for (int k = due.length - 2; k >= 0; k--) {
            Mill.due("step(-1)", m.mill.step(-1), 1);
            Mill.due("all at " + k, m.all(), all[k]);
        }
        Mill.due("step(-1) at the beginning", m.mill.step(-1), 0);
        m.mill.step(20000);
        Mill.due("all at the end", m.all(), all[due.length - 1]);
        m.mill.drop();
    }

    private static void conditional() {
        // 0 BEGIN 1 IF 2 UPDATE 3 ELSE 4 UPDATE 5 FI 6 END
        Mill m = Mill.of("int c, x; main { if c { x += 1; } else { x -= 1; } fi c; }");
        positions(m, false, 1, 4, 5, 6);
        Mill.due("numbers", m.numbers(), "0 -1");
        positions(m, true, 6, 5, 4, 1);
        Mill.due("numbers", m.numbers(), "0 0");
        m.mill.set(0, 0, 5);
        positions(m, false, 1, 2, 3, 6);
        Mill.due("numbers", m.numbers(), "5 1");
        positions(m, true, 6, 3, 2, 1);
        Mill.due("numbers", m.numbers(), "5 0");
    }

    private static void fails(Mill m, boolean backwards, int steps, int failure, int place) {
        m.mill.begin(backwards);
        Mill.due("step(20000)", m.mill.step(20000), steps);
        String before = m.all();
        state(m, "where it fails", 3, failure, place, steps);
        Mill.due("step(1) there", m.mill.step(1), 0);
        state(m, "where it fails again", 3, failure, place, steps);
        Mill.due("all", m.all(), before);
        m.mill.step(-20000);
        state(m, "taken back", 1, 0, -1, 0);
        m.mill.drop();
    }

    private static void conditionalTests() {
        String text = "int c, d, x; main { if c { x += 1; } else { x -= 1; } fi d; }";
        Mill m = Mill.of(text);
        m.mill.set(0, 0, 1);
        fails(m, false, 2, 1, text.indexOf("else"));
        fails(m, true, 2, 1, text.indexOf("else"));
        m.mill.set(0, 0, 0);
        m.mill.set(1, 0, 1);
        fails(m, false, 2, 1, text.indexOf("fi"));
        fails(m, true, 2, 1, text.indexOf("if"));
        text = "int c, d; main { if c { } fi d; }";
        m = Mill.of(text);
        m.mill.set(0, 0, 1);
        fails(m, false, 1, 1, text.indexOf("fi"));
    }

    private static void loop() {
        // 0 BEGIN 1 FROM 2 UPDATE y 3 UNTIL 4 UPDATE x 5 LOOP 6 END
        Mill m = Mill.of("int x, y; main { from x == 0 do { y += 2; } loop { x += 1; } until x == 2; }");
        positions(m, false, 1, 2, 3, 4, 5, 2, 3, 4, 5, 2, 3, 6);
        Mill.due("numbers", m.numbers(), "2 6");
        positions(m, true, 6, 3, 2, 5, 4, 3, 2, 5, 4, 3, 2, 1);
        Mill.due("numbers", m.numbers(), "0 0");
    }

    private static void loopTests() {
        String text = "int x; main { from x == 0 loop { x += 1; } until x == 3; }";
        Mill m = Mill.of(text);
        m.mill.set(0, 0, 1);
        fails(m, false, 0, 1, text.indexOf("from"));
        fails(m, true, 0, 1, text.indexOf("until"));
        m.mill.set(0, 0, -1);
        fails(m, false, 0, 1, text.indexOf("from"));
        // A second time where x is 0: LOOP finds e true.
        text = "int x; main { from x == 0 loop { skip; } until x == 3; }";
        fails(Mill.of(text), false, 3, 1, text.indexOf("until"));
        // Backwards UNTIL finds e2 true a second time.
        m = Mill.of(text);
        m.mill.set(0, 0, 3);
        fails(m, true, 3, 1, text.indexOf("until"));
        Mill.due("numbers", m.numbers(), "3");
    }

    private static void locals() {
        // 0 BEGIN 1 LOCAL 2 UPDATE 3 LOCAL 4 SWAP 5 DELOCAL 6 DELOCAL 7 END
        Mill m = Mill.of("int x; main { local byte k = x + 300 { k += 1; local byte l = k { l <=> k; } delocal k; } delocal x + 301; }");
        positions(m, false, 1, 2, 3, 4, 5, 6, 7);
        positions(m, true, 7, 6, 5, 4, 3, 2, 1);
        m.mill.begin(false);
        m.mill.step(3);
        Mill.due("all", m.all(), "0 |3 |4 |1 |1 |2 (-1 -1 0) l45 l45");
        m.mill.begin(true);
        m.mill.step(1);
        Mill.due("all", m.all(), "0 |1 |6 |0 |1 |1 (-1 -1 0) l45");
    }

    private static void localsLeft() {
        String text = "int x; main { local byte k = 1 { k += x; } delocal 2; }";
        Mill m = Mill.of(text);
        fails(m, false, 2, 7, text.indexOf("delocal"));
        fails(m, true, 2, 7, text.indexOf("local"));
        m.mill.set(0, 0, 1);
        m.mill.begin(false);
        Mill.due("step(20000)", m.mill.step(20000), 3);
        // Only the lowest bits count.
        m = Mill.of("main { local byte k = 257 { } delocal 1 - 256; }");
        m.mill.begin(false);
        Mill.due("step(20000)", m.mill.step(20000), 2);
    }

    private static void calls() {
        // 0 BEGIN 1 UPDATE 2 END 3 BEGIN 4 CALL p 5 SKIP 6 END 7 BEGIN 8 CALL q 9 END
        Mill m = Mill.of("int x; proc p(int n) { n += 3; } proc q(int z) { call p(z); skip; } main { call q(x); }");
        positions(m, false, 8, 4, 1, 2, 5, 6, 9);
        Mill.due("numbers", m.numbers(), "3");
        m.mill.begin(false);
        m.mill.step(2);
        Mill.due("all", m.all(), "3 |2 |1 |1 |3 |0 (-1 -1 0) (1 8 0) (0 4 0)");
        Mill.due("frame(3, 0)", m.mill.frame(3, 0), JanusMill.NONE);
        Mill.due("frame(-1, 0)", m.mill.frame(-1, 0), JanusMill.NONE);
        Mill.due("frame(0, 3)", m.mill.frame(0, 3), JanusMill.NONE);
        Mill.due("frame(0, -1)", m.mill.frame(0, -1), JanusMill.NONE);
        Mill.due("frame(MAX, 0)", m.mill.frame(Integer.MAX_VALUE, 0), JanusMill.NONE);
        m.mill.drop();
        positions(m, true, 9, 6, 5, 2, 1, 4, 8);
        Mill.due("numbers", m.numbers(), "0");
    }

    private static void uncalls() {
        // 0 BEGIN 1 UPDATE += 2 UPDATE *= 3 END 4 BEGIN 5 UNCALL 6 END
        Mill m = Mill.of("int x; proc p(int n) { n += 3; n *= 5; } main { uncall p(x); }");
        m.mill.set(0, 0, 50);
        positions(m, false, 5, 3, 2, 1, 6);
        Mill.due("numbers", m.numbers(), "7");
        m.mill.begin(false);
        m.mill.step(1);
        Mill.due("all", m.all(), "7 |1 |3 |0 |2 |0 (-1 -1 0) (0 5 0)");
        m.mill.drop();
        positions(m, true, 6, 1, 2, 3, 5);
        Mill.due("numbers", m.numbers(), "50");
        m.mill.begin(true);
        m.mill.step(1);
        Mill.due("all", m.all(), "50 |1 |1 |1 |2 |0 (-1 -1 0) (0 5 0)");
    }

    private static void uncallWithinUncall() {
        // 0 BEGIN 1 UPDATE 2 END 3 BEGIN 4 UNCALL p 5 CALL p 6 END 7 BEGIN 8 UNCALL q 9 END
        Mill m = Mill.of("int x; proc p(int n) { n += 1; } proc q(int n) { uncall p(n); call p(n); } main { uncall q(x); }");
        positions(m, false, 8, 6, 2, 1, 5, 1, 2, 4, 9);
        m.mill.begin(false);
        m.mill.step(5);
        Mill.due("all", m.all(), "-1 |5 |1 |1 |3 |0 (-1 -1 0) (1 8 0) (0 4 0)");
    }

    private static void argumentsThemselves() {
        Mill m = Mill.of("int x, y; int a[3], b[2]; stack int s[2];"
                + "proc p(int r[], int i, stack int t, int j) { i += size(r); r[j] += i; push i, t;"
                + "  local int k = 4 { call q(k, r, j); } delocal 4 + size(r); }"
                + "proc q(int v, int row[], int j) { v += size(row); row[0] += v; row[1] += j; }"
                + "main { call p(a, x, s, y); call p(b, y, s, x); }");
        m.mill.set(0, 0, 2);
        m.mill.set(1, 0, 1);
        Mill.due("run(false)", m.run(false), "0 0 7,6,0 9,0 5,3");
        Mill.due("state(0)", m.mill.state(0), 2);
        m.mill.step(-20000);
        Mill.due("numbers", m.numbers(), "2 1 0,0,0 0,0 -");
        m.mill.step(9);
        Mill.due("all", m.all(), "0 1 7,6,0 0,0 5 |9 |12 |1 |3 |1 (-1 -1 0) (0 14 0) (1 5 1) l7");
    }

    private static void stacks() {
        Mill m = Mill.of("byte x; byte a[2]; stack byte s[2]; proc p(byte v, stack byte t) { pop v, t; } main { push x, s; push a[1], s; call p(x, s); }");
        m.mill.set(0, 0, 5);
        m.mill.set(1, 1, -3);
        positions(m, false, 4, 5, 6, 1, 2, 7);
        Mill.due("numbers", m.numbers(), "-3 0,0 5");
        positions(m, true, 7, 2, 1, 6, 5, 4);
        Mill.due("numbers", m.numbers(), "5 0,-3 -");
    }

    private static void stackFailures() {
        String push = "int x; stack int s[1]; main { push x, s; }";
        String pop = "int x; stack int s[1]; main { pop x, s; }";
        int at = push.indexOf("push");
        Mill m = Mill.of(pop);
        m.mill.set(0, 0, 1);
        fails(m, false, 0, 4, at);
        m.mill.lay(1, 7);
        fails(m, false, 0, 6, at);
        fails(m, true, 0, 5, at);
        m = Mill.of(push);
        m.mill.set(0, 0, 1);
        fails(m, true, 0, 4, at);
        m.mill.lay(1, 7);
        fails(m, true, 0, 6, at);
        fails(m, false, 0, 5, at);
    }

    private static void failures() {
        String head = "int x, y; int a[3]; stack int s[2]; main { ";
        String[][] cases = {
            {"2", "a[3] += 1;", "+="}, {"2", "a[-1] += 1;", "+="}, {"2", "a[1 << 32] += 1;", "+="}, {"2", "x += a[3];", "+="},
            {"2", "x <=> a[3];", "<=>"}, {"2", "a[3] <=> x;", "<=>"}, {"2", "push a[3], s;", "push"}, {"2", "pop a[3], s;", "pop"},
            {"2", "x += a[a[1] - 1];", "+="},
            {"3", "x += 1 / y;", "+="}, {"3", "x += 1 % y;", "+="}, {"3", "assert 1 / y;", "assert"}, {"3", "if 1 / y { } fi 1;", "if"},
            {"3", "if 1 { } fi 1 / y;", "fi"}, {"3", "from 1 / y until 1;", "from"}, {"3", "from 1 until 1 / y;", "until"},
            {"3", "local int k = 1 / y { } delocal 1;", "local int"}, {"3", "local int k = 1 { } delocal 1 / y;", "delocal"},
            {"4", "x += top(s);", "+="}, {"4", "a[top(s)] <=> x;", "<=>"},
            {"1", "assert y;", "assert"}, {"1", "assert 0;", "assert"}, {"4", "pop x, s;", "pop"},
        };
        for (String[] c : cases) {
            String text = head + c[1] + " }";
            Mill m = Mill.of(text);
            m.mill.begin(false);
            m.mill.step(20000);
            Mill.due("failure of " + c[1], m.mill.state(1), Integer.parseInt(c[0]));
            Mill.due("its place in " + c[1], m.mill.state(2), text.lastIndexOf(c[2]));
            Mill.due("state(0) of " + c[1], m.mill.state(0), 3);
            Mill.due("numbers of " + c[1], m.numbers(), "0 0 0,0,0 -");
        }
    }

    private static void failuresChangeNothing() {
        Mill m = Mill.of("int x; int a[2]; main { x += 1; a[x] += 1; a[x] <=> a[x + 1]; x += 1; }");
        m.mill.begin(false);
        Mill.due("step(20000)", m.mill.step(20000), 2);
        state(m, "where it fails", 3, 2, 48, 2, 3, 1, 1, 0);
        Mill.due("numbers", m.numbers(), "1 0,1");
        Mill.due("step(-1)", m.mill.step(-1), 1);
        state(m, "behind step(-1)", 1, 0, -1, 1, 2, 1, 1, 0);
        Mill.due("numbers", m.numbers(), "1 0,0");
    }

    private static void failureIsForgotten() {
        Mill m = Mill.of("main { assert 0; }");
        m.mill.begin(false);
        m.mill.step(1);
        state(m, "where it fails", 3, 1, 7);
        Mill.due("step(20001)", m.mill.step(20001), JanusMill.RANGE);
        state(m, "behind a step() that was refused", 3, 1, 7);
        Mill.due("step(0)", m.mill.step(0), 0);
        state(m, "behind step(0)", 1, 0, -1);
        m.mill.step(1);
        m.mill.begin(false);
        state(m, "behind begin()", 1, 0, -1);
        m.mill.step(1);
        Mill.due("drop()", m.mill.drop(), 0);
        state(m, "behind drop()", 0, 0, -1, 0, -1, -1, 0, 0);
    }

    private static void orderWithinStatements() {
        String head = "int x; int a[2], b[2]; stack int s[1]; main { ";
        String[][] cases = {
            {"2", "a[5] += 1 / 0;"}, {"3", "a[1 / 0] += b[7];"}, {"2", "a[5] <=> a[1 / 0];"}, {"3", "a[1 / 0] <=> a[5];"},
            {"3", "x += 1 / 0 + a[5];"}, {"2", "x += a[5] + 1 / 0;"}, {"4", "x += top(s) + a[5];"}, {"2", "pop a[5], s;"},
            {"3", "pop a[1 / 0], s;"}, {"3", "x += (1 / 0) / (a[7]);"},
        };
        for (String[] c : cases) {
            Mill m = Mill.of(head + c[1] + " }");
            m.mill.begin(false);
            m.mill.step(1);
            Mill.due("failure of " + c[1], m.mill.state(1), Integer.parseInt(c[0]));
            m.mill.begin(true);
            m.mill.step(1);
            Mill.due("failure of " + c[1] + " backwards", m.mill.state(1), Integer.parseInt(c[0]));
        }
    }

    private static void deep() {
        String text = "int x; proc p(int n) { n += 1; call p(n); } main { call p(x); }";
        Mill m = Mill.of(text);
        m.mill.begin(false);
        Mill.due("step(20000)", m.mill.step(20000), 78);
        state(m, "at the 41st frame", 3, 8, text.indexOf("call"), 78, 2, 1, 40, 0);
        Mill.due("x", m.mill.value(0, 0), 39);
        Mill.due("frame(39, 0)", m.mill.frame(39, 0), 0);
        Mill.due("frame(39, 1)", m.mill.frame(39, 1), 2);
        Mill.due("frame(1, 1)", m.mill.frame(1, 1), 5);
        Mill.due("frame(40, 0)", m.mill.frame(40, 0), JanusMill.NONE);
        Mill.due("step(-20000)", m.mill.step(-20000), 78);
        Mill.due("x", m.mill.value(0, 0), 0);
    }

    private static void room() {
        StringBuilder s = new StringBuilder("proc p() { ");
        for (int i = 0; i < 6; i++) {
            s.append("local int k").append(i).append(" = ").append(i).append(" { ");
        }
        s.append("call p(); ");
        for (int i = 5; i >= 0; i--) {
            s.append("} delocal ").append(i).append("; ");
        }
        s.append("} main { call p(); }");
        Mill m = Mill.of(s.toString());
        m.mill.begin(false);
        // 33 FRAMES with six LOCALS each, and two more.
        Mill.due("step(20000)", m.mill.step(20000), 33 * 7 + 3);
        state(m, "at the 201st local", 3, 9, s.indexOf("local int k2"), 234, 3, 1, 35, 200);
        Mill.due("local(199)", m.mill.local(199), 1);
        Mill.due("local(200)", m.mill.local(200), Long.MIN_VALUE);
        Mill.due("frame(34, 2)", m.mill.frame(34, 2), 198);
        Mill.due("step(-20000)", m.mill.step(-20000), 234);
        state(m, "taken back", 1, 0, -1, 0, 16, 1, 1, 0);
        // Behind e: what e fails with comes first.
        String zero = s.toString().replace("local int k2 = 2", "local int k2 = 2 / n").replace("proc p()", "proc p(int n)")
                .replace("call p()", "call p(n)").replace("main { call p(n); }", "main { local int n = 1 { call p(n); } delocal 1; }");
        m = Mill.of(zero);
        m.mill.begin(false);
        m.mill.step(20000);
        Mill.due("state(1)", m.mill.state(1), 9);
        Mill.due("state(7)", m.mill.state(7), 200);
    }

    private static void backwards() {
        Mill m = Mill.of("int n, x, y;"
                + "proc fib(int n, int x, int y) { if n == 0 { x += 1; y += 1; } else { n -= 1; call fib(n, x, y); x += y; x <=> y; } fi x == y; }"
                + "main { n += 10; call fib(n, x, y); }");
        Mill.due("run(false)", m.run(false), "0 89 144");
        int steps = m.mill.drop();
        m.mill.begin(true);
        Mill.due("step(20000)", m.mill.step(20000), steps);
        Mill.due("numbers", m.numbers(), "0 0 0");
        Mill.due("state(0)", m.mill.state(0), 2);
        Mill.due("step(-20000)", m.mill.step(-20000), steps);
        Mill.due("numbers", m.numbers(), "0 89 144");
        m.mill.drop();
    }
}
