import java.nio.charset.StandardCharsets;

/** What the tests share: a JanusMill that is handled by texts, and a count of the answers that are not as due. */
final class Mill {
    private static int wrong = 0;
    private static int checks = 0;

    final JanusMill mill = new JanusMill();

    static void due(String call, long got, long want) {
        checks++;
        if (got != want) {
            wrong++;
            System.out.println(call + " answered " + got + ", due is " + want);
        }
    }

    static void due(String call, String got, String want) {
        checks++;
        if (!got.equals(want)) {
            wrong++;
            System.out.println(call + " answered\n" + got + "\ndue is\n" + want);
        }
    }

    static void due(String call, boolean holds) {
        due(call, holds ? 1 : 0, 1);
    }

    /** To stand at the end of every test's main. */
    static void finish() {
        System.out.println(checks + " answers looked at, " + wrong + " not as due");
        if (wrong != 0 || checks == 0) {
            System.exit(1);
        }
    }

    /** Makes THE TAPE the text alone. */
    Mill tape(String text) {
        return tape(text.getBytes(StandardCharsets.ISO_8859_1));
    }

    Mill tape(byte[] bytes) {
        mill.end(0);
        for (int at = 0; at < bytes.length; at += 20) {
            mill.feed(four(bytes, at), four(bytes, at + 4), four(bytes, at + 8), four(bytes, at + 12), four(bytes, at + 16));
        }
        mill.end(bytes.length);
        return this;
    }

    private static int four(byte[] bytes, int at) {
        int word = 0;
        for (int i = at; i < at + 4; i++) {
            word = word << 8 | (i < bytes.length ? bytes[i] & 255 : 32);
        }
        return word;
    }

    int load(String text) {
        tape(text);
        return mill.load();
    }

    /** Loads a text that must be a program. */
    static Mill of(String text) {
        Mill m = new Mill();
        int answer = m.load(text);
        if (answer < 0) {
            due("load() of " + text + " (fault " + m.mill.fault(0) + " at " + m.mill.fault(1) + ")", answer, 0);
        }
        return m;
    }

    /** Checks that the text has a FAULT of that kind where the mark @ stands in it. */
    static void faulty(int kind, String marked) {
        int place = marked.indexOf('@');
        String text = marked.substring(0, place) + marked.substring(place + 1);
        Mill m = new Mill();
        due("load() of " + shown(text), m.load(text), JanusMill.NONE);
        due("fault(0) of " + shown(text), m.mill.fault(0), kind);
        due("fault(1) of " + shown(text), m.mill.fault(1), place);
    }

    /** Checks that the text is a program. */
    static void fine(String text) {
        Mill m = new Mill();
        int answer = m.load(text);
        due("load() of " + shown(text) + " (fault " + m.mill.fault(0) + " at " + m.mill.fault(1) + ")", answer >= 2);
        due("fault(0) of " + shown(text), m.mill.fault(0), 0);
        due("fault(1) of " + shown(text), m.mill.fault(1), JanusMill.NONE);
    }

    private static String shown(String text) {
        return text.length() < 300 ? text : text.substring(0, 300) + "..";
    }

    String out() {
        StringBuilder s = new StringBuilder();
        for (int i = 0; mill.out(i) >= 0; i++) {
            s.append((char) mill.out(i));
        }
        return s.toString();
    }

    String written(boolean inverse) {
        int length = mill.write(inverse);
        String text = out();
        due("write(" + inverse + ")", length, text.length());
        return text;
    }

    /** All that is declared, with its numbers. */
    String numbers() {
        StringBuilder s = new StringBuilder();
        for (int v = 0; v < mill.count(1); v++) {
            s.append(v == 0 ? "" : " ");
            for (int i = 0; i < mill.size(v); i++) {
                s.append(i == 0 ? "" : ",").append(mill.value(v, i));
            }
            s.append(mill.size(v) == 0 ? "-" : "");
        }
        return s.toString();
    }

    /** All that can be seen of the machine. */
    String all() {
        StringBuilder s = new StringBuilder(numbers());
        for (int what = 3; what <= 7; what++) {
            s.append(" |").append(mill.state(what));
        }
        for (int k = 0; k < Math.max(0, mill.state(6)); k++) {
            s.append(" (").append(mill.frame(k, 0)).append(' ').append(mill.frame(k, 1)).append(' ');
            s.append(mill.frame(k, 2)).append(')');
        }
        for (int i = 0; i < Math.max(0, mill.state(7)); i++) {
            s.append(" l").append(mill.local(i));
        }
        return s.toString();
    }

    /** Runs the program from its beginning, as far as it goes: the numbers then. */
    String run(boolean backwards) {
        mill.begin(backwards);
        mill.step(20000);
        return numbers();
    }
}
