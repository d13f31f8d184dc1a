import java.util.ArrayList;
import java.util.List;
import java.util.Random;

/** Many texts and calls by chance (the same ones each time): nothing throws, what is done can be undone, what is written reads the same. */
public final class RandomTest {
    private static final String[] WORDS = ("byte short int long stack proc main push pop if else fi from do loop until local delocal call uncall assert skip "
        + "top size empty ( ) { } [ ] , ; = + - * / % & | ^ ~ ! < > <= >= == != << >> >>> && || += -= ^= *= /= <<= >>= <=> "
        + "x y a s t p q k 0 1 2 3 7 40 201 999999999999999999 $ abcdefghijklm").split(" ");
    private static final String[] BETWEEN = "+ - * / % & | ^ < > <= >= == != << >> >>> && ||".split(" ");
    private static final String[] CHANGES = "+= -= ^= <<= >>=".split(" ");

    private final Random random;
    private final List<String> text = new ArrayList<>();

    private RandomTest(long seed) {
        random = new Random(seed);
    }

    public static void main(String[] args) {
        for (int seed = 0; seed < 400; seed++) {
            new RandomTest(seed).soup();
            new RandomTest(seed).wrongCalls();
        }
        for (int seed = 0; seed < 1500; seed++) {
            new RandomTest(seed).program();
        }
        Mill.finish();
    }

    private boolean chance(int percent) {
        return random.nextInt(100) < percent;
    }

    private String one(String... of) {
        return of[random.nextInt(of.length)];
    }

    /** Texts of tokens or bytes by chance. */
    private void soup() {
        Mill m = new Mill();
        StringBuilder s = new StringBuilder(chance(50) ? "int x, y; int a[4]; stack int s[2]; main { " : "");
        int n = random.nextInt(60);
        for (int i = 0; i < n; i++) {
            s.append(chance(5) ? String.valueOf((char) random.nextInt(256)) : one(WORDS)).append(chance(70) ? " " : "");
        }
        m.tape(s.toString());
        int answer = m.mill.load();
        if (answer < 0) {
            Mill.due("a kind", m.mill.fault(0) >= 1 && m.mill.fault(0) <= 8);
            Mill.due("a place", m.mill.fault(1) >= 0 && m.mill.fault(1) <= s.length());
            Mill.due("no program", m.mill.begin(false), JanusMill.STATE);
        } else {
            Mill.due("no fault", m.mill.fault(0), 0);
        }
    }

    private int number() {
        switch (random.nextInt(4)) {
            case 0:
                return random.nextInt();
            case 1:
                return one("x", "y").equals("x") ? Integer.MIN_VALUE : Integer.MAX_VALUE;
            default:
                return random.nextInt(14) - 2;
        }
    }

    /** Calls with numbers that can't be, in all states. */
    private void wrongCalls() {
        makeProgram();
        Mill m = new Mill();
        m.load(String.join(" ", text));
        JanusMill x = m.mill;
        for (int i = 0; i < 200; i++) {
            long answer = 0;
            switch (random.nextInt(18)) {
                case 0: answer = x.feed(number(), number(), number(), number(), number()); break;
                case 1: answer = x.end(number()); break;
                case 2: answer = chance(5) ? x.load() : 0; break;
                case 3: answer = x.fault(number()); break;
                case 4: answer = x.variable(number(), number()); break;
                case 5: x.value(number(), number()); break;
                case 6: answer = x.size(number()); break;
                case 7: answer = x.set(number(), number(), number()); break;
                case 8: answer = x.lay(number(), number()); break;
                case 9: answer = x.begin(chance(50)); break;
                case 10: answer = x.drop(); break;
                case 11: answer = x.step(number()); break;
                case 12: answer = x.state(number()); break;
                case 13: answer = x.frame(number(), number()); break;
                case 14: x.local(number()); break;
                case 15: answer = x.code(number(), number()); break;
                case 16: answer = x.write(chance(50)); break;
                default: answer = Math.min(x.out(number()), x.count(number())); break;
            }
            Mill.due("an answer that can be", answer >= JanusMill.FULL);
        }
    }

    private void add(String... words) {
        for (String w : words) {
            text.add(w);
        }
    }

    /** A program with int x, y, z; int a[4]; stack int s[3] and two procedures. */
    private void makeProgram() {
        add("int", "x", ",", "y", ",", "z", ";", "int", "a", "[", "4", "]", ";", "stack", "int", "s", "[", "3", "]", ";");
        add("proc", "p", "(", "int", "x", ",", "int", "a", "[", "]", ",", "int", "y", ")");
        block(2, 0, false);
        add("proc", "q", "(", "int", "y", ",", "stack", "int", "s", ",", "int", "x", ",", "int", "a", "[", "]", ")");
        block(2, 0, true);
        add("main");
        block(3, 0, true);
    }

    private void block(int depth, int locals, boolean hasStack) {
        add("{");
        int n = random.nextInt(4);
        for (int i = 0; i < n; i++) {
            statement(depth, locals, hasStack);
        }
        add("}");
    }

    private void statement(int depth, int locals, boolean hasStack) {
        int mark = text.size();
        switch (random.nextInt(depth > 0 ? 12 : 6)) {
            case 0:
            case 1:
                add("a", "[", one("0", "1", "2", "x", "y"), "]", one(CHANGES));
                ex(2, "x", "y");
                break;
            case 2:
                add("x", one(CHANGES));
                ex(2, "y", "a");
                break;
            case 3:
                add(one("x", "y"), one("*=", "/="), one("1", "3", "77"));
                break;
            case 4:
                add("a", "[", one("0", "1"), "]", "<=>", one("x", "y"));
                break;
            case 5:
                if (hasStack) {
                    add(one("push", "push", "pop"), one("x", "y"), ",", "s");
                } else {
                    add("skip");
                }
                break;
            case 6:
            case 7:
                conditional(depth, locals, hasStack);
                break;
            case 8:
                add("from", "y", "==", "0", "loop");
                block(depth - 1, locals, hasStack);
                text.remove(text.size() - 1);
                add("y", "+=", "1", ";", "}", "until", "y", "==", one("1", "2", "3"));
                break;
            case 9:
                add("local", one("int", "byte"), "k" + locals, "=", one("x", "y", "3"));
                block(depth - 1, locals + 1, hasStack);
                add("delocal", text.get(mark + 4));
                break;
            default:
                if (hasStack && chance(50)) {
                    add(one("call", "uncall"), "q", "(", "x", ",", "s", ",", "y", ",", "a", ")");
                } else {
                    add(one("call", "uncall"), "p", "(", "y", ",", "a", ",", "x", ")");
                }
                break;
        }
        add(";");
    }

    private void conditional(int depth, int locals, boolean hasStack) {
        int mark = text.size();
        add("if");
        ex(1, "x", "y", "a");
        List<String> e = new ArrayList<>(text.subList(mark + 1, text.size()));
        block(depth - 1, locals, hasStack);
        if (chance(60)) {
            add("else");
            block(depth - 1, locals, hasStack);
        }
        add("fi");
        text.addAll(e);
    }

    private void ex(int depth, String... names) {
        if (depth == 0 || chance(20)) {
            String name = one(names);
            if (chance(40)) {
                add(one("0", "1", "2", "5"));
            } else if (name.equals("a")) {
                add("a", "[", one("0", "3", "1"), "]");
            } else {
                add(name);
            }
        } else if (chance(20)) {
            add(one("-", "~", "!"), "(");
            ex(depth - 1, names);
            add(")");
        } else {
            ex(depth - 1, names);
            add(one(BETWEEN));
            ex(depth - 1, names);
        }
    }

    private void program() {
        makeProgram();
        String whole = String.join(chance(50) ? " " : "\n", text);
        Mill m = Mill.of(whole);
        String written = m.written(false);
        String inverse = m.written(true);
        Mill again = new Mill();
        if (written.length() <= 4000 && again.load(written) > 0) {
            Mill.due("written again", again.written(false), written);
            Mill.due("inverse again", again.written(true), inverse);
        }
        Mill other = new Mill();
        boolean isRead = inverse.length() <= 4000 && other.load(inverse) > 0;
        if (isRead) {
            Mill.due("inverse of the inverse", other.written(true), written);
        }
        for (int v = 0; v < 3; v++) {
            int x = random.nextInt(7) - 3;
            m.mill.set(v, 0, x);
            other.mill.set(v, 0, x);
        }
        boolean backwards = chance(40);
        if (isRead) {
            sameRun(m, other, backwards);
        }
        onAndBack(m, backwards);
        wrongText();
    }

    /** A RUN backwards does what the inverse's RUN forwards does. */
    private void sameRun(Mill m, Mill other, boolean backwards) {
        m.mill.begin(backwards);
        other.mill.begin(!backwards);
        int n = m.mill.step(300);
        Mill.due("steps of the inverse", other.mill.step(300), n);
        Mill.due("numbers of the inverse", other.numbers(), m.numbers());
        Mill.due("failure of the inverse", other.mill.state(1), m.mill.state(1));
        Mill.due("locals of the inverse", other.mill.state(7), m.mill.state(7));
        m.mill.step(-300);
        Mill.due("back at the beginning", m.mill.state(3), 0);
        m.mill.drop();
        other.mill.drop();
    }

    private void onAndBack(Mill m, boolean backwards) {
        m.mill.begin(backwards);
        List<String> seen = new ArrayList<>();
        seen.add(m.all());
        for (int k = 0; k < 60; k++) {
            int n = random.nextInt(13) - 4;
            int before = m.mill.state(3);
            int done = m.mill.step(n);
            int steps = m.mill.state(3);
            Mill.due("steps", steps, n < 0 ? before - done : before + done);
            Mill.due("no failure on the way back", n >= 0 || m.mill.state(1) == 0 && done == Math.min(-n, before));
            if (steps < seen.size()) {
                Mill.due("all at " + steps, m.all(), seen.get(steps));
            } else {
                // What lies between is seen on the way back.
                String[] ahead = new String[steps + 1];
                for (int i = steps; i >= seen.size(); i--) {
                    ahead[i] = m.all();
                    m.mill.step(-1);
                }
                Mill.due("all at " + (seen.size() - 1), m.all(), seen.get(seen.size() - 1));
                for (int i = seen.size(); i <= steps; i++) {
                    seen.add(ahead[i]);
                }
                m.mill.step(n);
            }
        }
    }

    /** One token of a right text is another one. */
    private void wrongText() {
        text.set(random.nextInt(text.size()), one(WORDS));
        Mill m = new Mill();
        String whole = String.join(" ", text);
        int answer = m.load(whole);
        Mill.due("an answer and a fault", answer > 0 == (m.mill.fault(0) == 0));
        Mill.due("a place within the text", m.mill.fault(1) <= whole.length());
    }
}
