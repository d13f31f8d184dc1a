/** Promises 4, 6, 8, 17 and 20: load, variable, size, code and count. */
public final class LoadTest {
    public static void main(String[] args) {
        variables();
        counts();
        codeOfStatements();
        codeOfBlocks();
        codeOfProcedures();
        anotherProgram();
        wrongTextLeavesAll();
        Mill.finish();
    }

    private static void variable(Mill m, int v, int sort, int bits, int length, String name) {
        Mill.due("variable(" + v + ", 0)", m.mill.variable(v, 0), sort);
        Mill.due("variable(" + v + ", 1)", m.mill.variable(v, 1), bits);
        Mill.due("variable(" + v + ", 2)", m.mill.variable(v, 2), length);
        Mill.due("variable(" + v + ", 3)", m.mill.variable(v, 3), name.length());
        for (int i = 0; i < name.length(); i++) {
            Mill.due("variable(" + v + ", " + (10 + i) + ")", m.mill.variable(v, 10 + i), name.charAt(i));
        }
        Mill.due("byte behind the name", m.mill.variable(v, 10 + name.length()), JanusMill.NONE);
        for (int what : new int[] {-1, 4, 9, Integer.MIN_VALUE, Integer.MAX_VALUE}) {
            Mill.due("variable(" + v + ", " + what + ")", m.mill.variable(v, what), JanusMill.NONE);
        }
    }

    private static void variables() {
        Mill m = Mill.of("byte a; short bc_9, z[200]; int abcdefghijkl; long zzzzzzzzzzzz[1]; stack byte s[40]; stack long a_________0[1];"
                + "proc p(int other) {} main { local int k = 1 {} delocal 1; }");
        variable(m, 0, 0, 8, 1, "a");
        variable(m, 1, 0, 16, 1, "bc_9");
        variable(m, 2, 1, 16, 200, "z");
        variable(m, 3, 0, 32, 1, "abcdefghijkl");
        variable(m, 4, 1, 64, 1, "zzzzzzzzzzzz");
        variable(m, 5, 2, 8, 40, "s");
        variable(m, 6, 2, 64, 1, "a_________0");
        for (int v : new int[] {-1, 7, 40, Integer.MAX_VALUE, Integer.MIN_VALUE}) {
            Mill.due("variable(" + v + ", 0)", m.mill.variable(v, 0), JanusMill.NONE);
            Mill.due("size(" + v + ")", m.mill.size(v), JanusMill.NONE);
        }
        int[] sizes = {1, 1, 200, 1, 1, 0, 0};
        for (int v = 0; v < sizes.length; v++) {
            Mill.due("size(" + v + ")", m.mill.size(v), sizes[v]);
        }
    }

    private static void counts() {
        Mill m = Mill.of("int x, a[3]; stack int s[2]; proc p(int y) { y += 1; } proc q() {} main {"
                + "a[x + 1] += -x * (3 + size(s)) + top(s); x *= 7; push a[x], s; x <=> a[2]; if empty(s) {} fi ~!a[x]; }");
        Mill.due("count(0)", m.mill.count(0), 0);
        Mill.due("count(1)", m.mill.count(1), 3);
        Mill.due("count(2)", m.mill.count(2), 2);
        Mill.due("count(3)", m.mill.count(3), 14);
        // y += 1: 1; [x + 1]: 3; -x * (3 + size(s)) + top(s): 2 + 1 + 3 + 1 + 1; [x]: 1; [2]: 1; empty(s): 1; ~!a[x]: 4
        Mill.due("count(4)", m.mill.count(4), 19);
        Mill.due("count(5)", m.mill.count(5), JanusMill.NONE);
        Mill.due("count(-1)", m.mill.count(-1), JanusMill.NONE);
    }

    private static void codes(String text, int[][] due) {
        Mill m = new Mill();
        Mill.due("load() of " + text, m.load(text), due.length);
        for (int i = 0; i < due.length; i++) {
            for (int what = 0; what < 3; what++) {
                Mill.due("code(" + i + ", " + what + ") of " + text, m.mill.code(i, what), due[i][what]);
            }
        }
        for (int i : new int[] {-1, due.length, Integer.MAX_VALUE, Integer.MIN_VALUE}) {
            for (int what = 0; what < 3; what++) {
                Mill.due("code(" + i + ", " + what + ")", m.mill.code(i, what), JanusMill.NONE);
            }
        }
        Mill.due("code(0, 3)", m.mill.code(0, 3), JanusMill.NONE);
        Mill.due("code(0, -1)", m.mill.code(0, -1), JanusMill.NONE);
    }

    private static void codeOfStatements() {
        codes("main{}", new int[][] {{1, 0, 1}, {2, 5, 0}});
        codes("int x;stack int s[1];main{x+=1;x<=>x;push x,s;pop x,s;assert x;skip;}", new int[][] {
            {1, 21, 7}, {3, 27, -1}, {4, 32, -1}, {5, 37, -1}, {6, 46, -1}, {17, 54, -1}, {18, 63, -1}, {2, 68, 0}});
    }

    private static void codeOfBlocks() {
        codes("main{if 1{skip;}fi 2;}", new int[][] {
            {1, 0, 5}, {7, 5, 4}, {18, 10, -1}, {8, 16, 4}, {9, 16, 1}, {2, 21, 0}});
        codes("main{if 1{}else{skip;}fi 2;}", new int[][] {
            {1, 0, 5}, {7, 5, 4}, {8, 11, 4}, {18, 16, -1}, {9, 22, 1}, {2, 27, 0}});
        codes("main{from 1 until 1;}", new int[][] {
            {1, 0, 4}, {10, 5, 3}, {11, 12, 3}, {12, 12, 1}, {2, 20, 0}});
        codes("main{from 1 do{skip;}loop{skip;skip;}until 1;}", new int[][] {
            {1, 0, 7}, {10, 5, 6}, {18, 15, -1}, {11, 37, 6}, {18, 26, -1}, {18, 31, -1}, {12, 37, 1}, {2, 45, 0}});
        codes("main{from 1 loop{from 1 loop{}until 1;}until 1;}", new int[][] {
            {1, 0, 7}, {10, 5, 6}, {11, 39, 6}, {10, 17, 5}, {11, 30, 5}, {12, 30, 3}, {12, 39, 1}, {2, 47, 0}});
        codes("main{local int k=1{skip;}delocal 1;}", new int[][] {
            {1, 0, 4}, {13, 5, 3}, {18, 19, -1}, {14, 25, 1}, {2, 35, 0}});
    }

    private static void codeOfProcedures() {
        codes("proc p(){call q();}proc q(){uncall p();}main{call q();}", new int[][] {
            {1, 0, 2}, {15, 9, 3}, {2, 18, 0}, {1, 19, 5}, {16, 28, 0}, {2, 39, 3}, {1, 40, 8}, {15, 45, 3}, {2, 54, 6}});
    }

    private static void anotherProgram() {
        Mill m = Mill.of("int x; stack int s[2]; main { local int k = 1 { x += k; } delocal 1; }");
        m.mill.set(0, 0, 5);
        m.mill.lay(1, 7);
        m.mill.begin(false);
        m.mill.step(2);
        String before = m.written(false);
        Mill.due("load()", m.load("byte y, z; stack byte t[3]; proc p() {} main { skip; y += 2; }"), 6);
        Mill.due("count(0)", m.mill.count(0), 0);
        Mill.due("count(2)", m.mill.count(2), 1);
        Mill.due("numbers", m.numbers(), "0 0 -");
        Mill.due("state(0)", m.mill.state(0), 0);
        Mill.due("drop()", m.mill.drop(), JanusMill.STATE);
        Mill.due("frame(0, 2)", m.mill.frame(0, 2), JanusMill.NONE);
        Mill.due("local(0)", m.mill.local(0), Long.MIN_VALUE);
        Mill.due("out() stays", m.out(), before);
        Mill.due("run", m.run(false), "2 0 -");
        // The first one again, behind the second: nothing is left of either.
        Mill.due("load()", m.load("int x; stack int s[2]; main { x += 1; }"), 3);
        Mill.due("numbers", m.numbers(), "0 -");
        Mill.due("count(2)", m.mill.count(2), 0);
        Mill.due("count(4)", m.mill.count(4), 1);
    }

    private static void wrongTextLeavesAll() {
        Mill m = Mill.of("int x; stack int s[2]; proc p(int x) { local int k = 5 { x += k; } delocal 5; } main { call p(x); x *= 3; }");
        m.mill.set(0, 0, 4);
        m.mill.lay(1, 9);
        m.mill.begin(false);
        m.mill.step(2);
        m.mill.write(true);
        String out = m.out();
        String all = m.all();
        Mill.due("all", all, "4 9 |2 |2 |1 |2 |1 (-1 -1 0) (0 6 0) l5");
        String wrong = "byte a[3], b, c; proc f(int x) {} proc g() {} main { if 1 { skip; skip; } fi 1; @ }";
        Mill.due("load()", m.load(wrong), JanusMill.NONE);
        Mill.due("fault(0)", m.mill.fault(0), 1);
        Mill.due("fault(1)", m.mill.fault(1), wrong.indexOf('@'));
        Mill.due("all", m.all(), all);
        Mill.due("out", m.out(), out);
        Mill.due("count(0)", m.mill.count(0), wrong.length());
        Mill.due("count(1)", m.mill.count(1), 2);
        Mill.due("count(2)", m.mill.count(2), 1);
        Mill.due("count(3)", m.mill.count(3), 9);
        Mill.due("step(20000)", m.mill.step(20000), 4);
        Mill.due("numbers", m.numbers(), "27 9");
        Mill.due("written", m.written(true), out);
    }
}
