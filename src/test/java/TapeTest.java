/** Promises 1 to 3: a new object, feed, end. */
public final class TapeTest {
    public static void main(String[] args) {
        newObject();
        feed();
        end();
        Mill.finish();
    }

    private static void newObject() {
        JanusMill x = new JanusMill();
        for (int what = 0; what <= 4; what++) {
            Mill.due("count(" + what + ") of a new object", x.count(what), 0);
        }
        Mill.due("count(-1)", x.count(-1), JanusMill.NONE);
        Mill.due("count(5)", x.count(5), JanusMill.NONE);
        Mill.due("variable(0, 0)", x.variable(0, 0), JanusMill.NONE);
        Mill.due("value(0, 0)", x.value(0, 0), Long.MIN_VALUE);
        Mill.due("size(0)", x.size(0), JanusMill.NONE);
        Mill.due("set(0, 0, 1)", x.set(0, 0, 1), JanusMill.NONE);
        Mill.due("lay(0, 1)", x.lay(0, 1), JanusMill.NONE);
        Mill.due("begin(false)", x.begin(false), JanusMill.STATE);
        Mill.due("begin(true)", x.begin(true), JanusMill.STATE);
        Mill.due("drop()", x.drop(), JanusMill.STATE);
        Mill.due("step(1)", x.step(1), JanusMill.STATE);
        Mill.due("step(20001)", x.step(20001), JanusMill.RANGE);
        int[] states = {0, 0, -1, 0, -1, -1, 0, 0, -1};
        for (int what = 0; what < states.length; what++) {
            Mill.due("state(" + what + ")", x.state(what), states[what]);
        }
        Mill.due("state(-1)", x.state(-1), JanusMill.NONE);
        Mill.due("frame(0, 0)", x.frame(0, 0), JanusMill.NONE);
        Mill.due("local(0)", x.local(0), Long.MIN_VALUE);
        Mill.due("code(0, 0)", x.code(0, 0), JanusMill.NONE);
        Mill.due("write(false)", x.write(false), JanusMill.STATE);
        Mill.due("write(true)", x.write(true), JanusMill.STATE);
        Mill.due("out(0)", x.out(0), JanusMill.NONE);
        Mill.due("fault(0)", x.fault(0), 0);
        Mill.due("fault(1)", x.fault(1), JanusMill.NONE);
        Mill.due("fault(2)", x.fault(2), JanusMill.NONE);
    }

    private static void feed() {
        JanusMill x = new JanusMill();
        // "main{skip;}" with blanks, the highest byte of each int first.
        Mill.due("feed", x.feed(0x6d61696e, 0x7b736b69, 0x703b7d20, 0x20202020, 0x20202020), 20);
        Mill.due("load()", x.load(), 3);
        Mill.due("count(0) behind load()", x.count(0), 0);
        for (int i = 1; i <= 200; i++) {
            Mill.due("feed " + i, x.feed(-1, 0, 1, 2, 3), 20 * i);
        }
        Mill.due("feed beyond 4000", x.feed(0, 0, 0, 0, 0), JanusMill.FULL);
        Mill.due("count(0)", x.count(0), 4000);
        Mill.due("end(3981)", x.end(3981), 3981);
        Mill.due("feed to 4001", x.feed(0, 0, 0, 0, 0), JanusMill.FULL);
        Mill.due("count(0)", x.count(0), 3981);
        Mill.due("end(3980)", x.end(3980), 3980);
        Mill.due("feed to 4000", x.feed(0, 0, 0, 0, 0), 4000);
    }

    private static void end() {
        JanusMill x = new JanusMill();
        Mill.due("end(0)", x.end(0), 0);
        Mill.due("end(1)", x.end(1), JanusMill.NONE);
        Mill.due("end(-1)", x.end(-1), JanusMill.NONE);
        x.feed(0x6d61696e, 0x7b7d2323, 0x24242424, 0x24242424, 0x24242424);
        Mill.due("end(21)", x.end(21), JanusMill.NONE);
        Mill.due("end(MIN_VALUE)", x.end(Integer.MIN_VALUE), JanusMill.NONE);
        Mill.due("count(0)", x.count(0), 20);
        Mill.due("end(20)", x.end(20), 20);
        Mill.due("end(6)", x.end(6), 6);
        Mill.due("end(7)", x.end(7), JanusMill.NONE);
        Mill.due("load()", x.load(), 2);
    }
}
