/** Promises 7 to 10: value, size, set and lay. */
public final class NumbersTest {
    private static final String TEXT = "byte b; short h; int i; long l; int a[3]; byte r[2]; stack short s[2]; stack long t[1]; main { skip; }";

    public static void main(String[] args) {
        setAndValue();
        setRefused();
        layAndSize();
        whileRunning();
        Mill.finish();
    }

    private static void set(Mill m, int v, int i, long x, long becomes) {
        Mill.due("set(" + v + ", " + i + ", " + x + ")", m.mill.set(v, i, x), 1);
        Mill.due("value(" + v + ", " + i + ")", m.mill.value(v, i), becomes);
    }

    private static void setAndValue() {
        Mill m = Mill.of(TEXT);
        Mill.due("numbers", m.numbers(), "0 0 0 0 0,0,0 0,0 - -");
        set(m, 0, 0, 127, 127);
        set(m, 0, 0, 128, -128);
        set(m, 0, 0, -129, 127);
        set(m, 0, 0, 0x1234567890abcdefL, (byte) 0xef);
        set(m, 1, 0, 32768, -32768);
        set(m, 1, 0, -32769, 32767);
        set(m, 2, 0, 1L << 31, -(1L << 31));
        set(m, 2, 0, 0x7fffffffL, 0x7fffffffL);
        set(m, 3, 0, Long.MIN_VALUE + 1, Long.MIN_VALUE + 1);
        set(m, 3, 0, Long.MAX_VALUE, Long.MAX_VALUE);
        set(m, 3, 0, Long.MIN_VALUE, Long.MIN_VALUE);
        set(m, 4, 0, 10, 10);
        set(m, 4, 2, 1L << 32 | 12, 12);
        set(m, 5, 1, 255, -1);
        set(m, 3, 0, 3, 3);
        Mill.due("numbers", m.numbers(), "-17 32767 2147483647 3 10,0,12 0,-1 - -");
    }

    private static void setRefused() {
        Mill m = Mill.of(TEXT);
        int[][] none = {{-1, 0}, {8, 0}, {0, 1}, {0, -1}, {4, 3}, {4, -1}, {5, 2}, {6, 0}, {7, 0}, {Integer.MAX_VALUE, 0},
            {Integer.MIN_VALUE, 0}, {4, Integer.MAX_VALUE}, {4, Integer.MIN_VALUE}};
        for (int[] n : none) {
            Mill.due("set(" + n[0] + ", " + n[1] + ", 1)", m.mill.set(n[0], n[1], 1), JanusMill.NONE);
            Mill.due("value(" + n[0] + ", " + n[1] + ")", m.mill.value(n[0], n[1]), Long.MIN_VALUE);
        }
        m.mill.lay(6, 5);
        Mill.due("set(6, 0, 1)", m.mill.set(6, 0, 1), JanusMill.NONE);
        Mill.due("numbers", m.numbers(), "0 0 0 0 0,0,0 0,0 5 -");
    }

    private static void layAndSize() {
        Mill m = Mill.of(TEXT);
        Mill.due("size(6)", m.mill.size(6), 0);
        Mill.due("lay(6, 40000)", m.mill.lay(6, 40000), 1);
        Mill.due("lay(6, 7)", m.mill.lay(6, 7), 2);
        Mill.due("size(6)", m.mill.size(6), 2);
        Mill.due("lay(6, 8)", m.mill.lay(6, 8), JanusMill.FULL);
        Mill.due("value(6, 0)", m.mill.value(6, 0), 40000 - 65536);
        Mill.due("value(6, 1)", m.mill.value(6, 1), 7);
        Mill.due("value(6, 2)", m.mill.value(6, 2), Long.MIN_VALUE);
        Mill.due("value(6, -1)", m.mill.value(6, -1), Long.MIN_VALUE);
        Mill.due("lay(7, MAX)", m.mill.lay(7, Long.MAX_VALUE), 1);
        Mill.due("lay(7, 1)", m.mill.lay(7, 1), JanusMill.FULL);
        for (int v : new int[] {-1, 0, 3, 4, 5, 8, Integer.MAX_VALUE, Integer.MIN_VALUE}) {
            Mill.due("lay(" + v + ", 1)", m.mill.lay(v, 1), JanusMill.NONE);
        }
        Mill.due("numbers", m.numbers(), "0 0 0 0 0,0,0 0,0 -25536,7 9223372036854775807");
    }

    private static void whileRunning() {
        Mill m = Mill.of(TEXT);
        m.mill.lay(7, 1);
        m.mill.begin(false);
        Mill.due("set(0, 0, 1)", m.mill.set(0, 0, 1), JanusMill.STATE);
        Mill.due("set(6, 0, 1)", m.mill.set(6, 0, 1), JanusMill.NONE);
        Mill.due("set(0, 1, 1)", m.mill.set(0, 1, 1), JanusMill.NONE);
        Mill.due("lay(6, 1)", m.mill.lay(6, 1), JanusMill.STATE);
        Mill.due("lay(7, 1) of a full one", m.mill.lay(7, 1), JanusMill.STATE);
        Mill.due("lay(0, 1)", m.mill.lay(0, 1), JanusMill.NONE);
        m.mill.step(5);
        Mill.due("state(0)", m.mill.state(0), 2);
        Mill.due("set(0, 0, 1) when it has ended", m.mill.set(0, 0, 1), JanusMill.STATE);
        m.mill.drop();
        Mill.due("set(0, 0, 1)", m.mill.set(0, 0, 1), 1);
        Mill.due("lay(6, 1)", m.mill.lay(6, 1), 1);
        Mill.due("numbers", m.numbers(), "1 0 0 0 0,0,0 0,0 1 1");
    }
}
