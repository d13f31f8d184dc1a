import java.util.ArrayList;
import java.util.List;

/**
 * Of the Terms part I: what the document says of TOKENS and of the limits of a text, at each limit and one step to each
 * side of it. The mark @ tells the place that is due.
 */
public final class TextEdgesTest {
    private static final String[] BINARY = "|| && | ^ & == != < <= > >= << >> >>> + - * / %".split(" ");
    private static final String[] AHEAD = "- ~ !".split(" ");
    private static final String[] SIGNS =
        "( ) { } [ ] , ; = + - * / % & | ^ ~ ! < > <= >= == != << >> >>> && || += -= ^= *= /= <<= >>= <=>".split(" ");
    private static final String DECLARED = "int x, y; int a[4]; stack int s[3]; main { ";

    public static void main(String[] args) {
        blanks();
        remarks();
        firstByteOfWord();
        bytesBehindInWord();
        longWords();
        longNumbers();
        signs();
        lengthsOfRows();
        lengthsOfStacks();
        factors();
        declaredNames();
        procedures();
        params();
        locals();
        localsOfProcedure();
        numbersInAll();
        openBlocks();
        openThings();
        thingsEnd();
        instructions();
        lastInstruction();
        heightOfOperators();
        heightOfAhead();
        heightOfPlaces();
        heightOfStatementPlace();
        highestOfMany();
        argumentsGiven();
        callsAhead();
        callsOfNothing();
        tapeBehindLoad();
        Mill.finish();
    }

    private static void fine(String statements) {
        Mill.fine(DECLARED + statements + " }");
    }

    private static void faulty(int kind, String statements) {
        Mill.faulty(kind, DECLARED + statements + " }");
    }

    private static boolean isLetter(int b) {
        return b >= 'a' && b <= 'z';
    }

    private static boolean isOfWord(int b) {
        return isLetter(b) || b >= '0' && b <= '9' || b == '_';
    }

    private static void dueFault(String text, int kind, int place) {
        Mill.faulty(kind, text.substring(0, place) + "@" + text.substring(place));
    }

    /** "blanks (32, 10)": of all bytes these two alone. */
    private static void blanks() {
        for (int b = 0; b < 256; b++) {
            Mill m = new Mill();
            int answer = m.load("main" + (char) b + "{}");
            boolean isBlank = b == 32 || b == 10;
            Mill.due("load() with byte " + b, answer, isBlank ? 2 : JanusMill.NONE);
            int place = isOfWord(b) ? 0 : b == '#' ? 7 : b == '{' ? 5 : 4;
            Mill.due("fault(1) with byte " + b, m.mill.fault(1), isBlank ? JanusMill.NONE : place);
            Mill.due("fault(0) with byte " + b, m.mill.fault(0), isBlank ? 0 : 1);
        }
    }

    /** "# with all behind it up to the line's end counting as one". */
    private static void remarks() {
        for (int b = 0; b < 256; b++) {
            if (b != 10 && b != '@') {
                Mill.fine("main{}#" + (char) b + "}");
                Mill.fine("main#" + (char) b + "}\n{}");
            }
        }
        Mill.fine("main{}#");
        Mill.fine("main{}#\n");
        Mill.fine("main#\n{}");
        Mill.faulty(1, "main{}#\n@}");
        Mill.faulty(1, "@ma#\nin{}");
        Mill.fine("main{from 1#\nuntil 1;}");
        faulty(1, "x @+#\n= 1;");
        fine("x +=#\n1;");
    }

    /** "WORDS: a small letter and .. behind". */
    private static void firstByteOfWord() {
        for (int b = 0; b < 256; b++) {
            String text = "int " + (char) b + ";main{}";
            if (isLetter(b)) {
                Mill.fine(text);
            } else if (b == '#') {
                dueFault(text, 1, text.length());
            } else {
                dueFault(text, 1, b == 32 || b == 10 ? 5 : 4);
            }
        }
    }

    /** "small letters, digits and _ behind". */
    private static void bytesBehindInWord() {
        for (int b = 0; b < 256; b++) {
            String text = "int a" + (char) b + "c;main{}";
            if (isOfWord(b) || b == ',') {
                Mill.fine(text);
            } else if (b == '#') {
                dueFault(text, 1, text.length());
            } else {
                boolean isFine = b == 32 || b == 10 || b == ';' || b == '[';
                dueFault(text, 1, isFine ? 6 : 5);
            }
        }
    }

    /** "(as many as there are, 12 at most)": all of them are taken together, and a WORD with a thirteenth is none. */
    private static void longWords() {
        Mill.fine("int abcdefghijk;main{}");
        Mill.fine("int abcdefghijkl;main{}");
        Mill.faulty(1, "int @abcdefghijklm;main{}");
        Mill.faulty(1, "int @abcdefghijklmnopqrstuvwx;main{}");
        Mill.faulty(1, "int @abcdefghijklmnopqrstuvwxy;main{}");
        Mill.faulty(1, "int @abcdefghijkl9;main{}");
        Mill.faulty(1, "int @abcdefghijkl_;main{}");
        Mill.faulty(1, "int @" + "z".repeat(3000) + ";main{}");
        Mill.faulty(1, "int abcdefghijkl,@abcdefghijklm;main{}");
        Mill.faulty(1, "int abcdefghijkl;main{from @abcdefghijkldo{}until 1;}");
        Mill.faulty(1, "int abcdefghijkl;main{@abcdefghijklm+=1;}");
        Mill.faulty(1, "@" + "main".repeat(4) + "{}");
        Mill m = Mill.of("int abcdefghijkl;main{abcdefghijkl+=1;}");
        Mill.due("variable(0, 3)", m.mill.variable(0, 3), 12);
        Mill.due("variable(0, 20)", m.mill.variable(0, 20), 'k');
        Mill.due("variable(0, 21)", m.mill.variable(0, 21), 'l');
        Mill.due("variable(0, 22)", m.mill.variable(0, 22), JanusMill.NONE);
        // Two that differ in the twelfth byte alone.
        Mill.fine("int abcdefghijkl,abcdefghijkm;main{}");
        Mill.faulty(2, "int abcdefghijkl,@abcdefghijkl;main{}");
    }

    /** "NUMBERS: digits (as many as there are, 18 at most)", likewise. */
    private static void longNumbers() {
        fine("x += 9;");
        fine("x += " + "9".repeat(17) + ";");
        fine("x += " + "9".repeat(18) + ";");
        faulty(1, "x += @" + "9".repeat(19) + ";");
        faulty(1, "x += @" + "9".repeat(36) + ";");
        faulty(1, "x += @" + "9".repeat(37) + ";");
        faulty(1, "x += @" + "0".repeat(19) + ";");
        faulty(1, "x += @" + "1".repeat(3000) + ";");
        Mill.fine("int a[" + "0".repeat(15) + "200];main{}");
        Mill.faulty(1, "int a[@" + "0".repeat(18) + "9];main{}");
        faulty(1, "x *= @" + "9".repeat(17) + "81;");
        faulty(3, "x *= @" + "9".repeat(17) + "8;");
        fine("x *= " + "8".repeat(17) + "9;");
        Mill m = Mill.of("long x; main { x += " + "9".repeat(18) + "; }");
        Mill.due("run", m.run(false), "9".repeat(18));
    }

    /** The TOKENS of some signs without blanks, as the document says: the longest each time. */
    private static List<String> longest(String bytes) {
        List<String> tokens = new ArrayList<>();
        int at = 0;
        while (at < bytes.length()) {
            String best = "";
            for (String sign : SIGNS) {
                if (bytes.startsWith(sign, at) && sign.length() > best.length()) {
                    best = sign;
                }
            }
            tokens.add(best);
            at += best.length();
        }
        return tokens;
    }

    private static boolean has(String[] all, String one) {
        return List.of(all).contains(one);
    }

    /** "signs, the longest": all that four bytes of operators can be between two operands. */
    private static void signs() {
        String bytes = "=+-*/%&|^~!<>";
        int n = bytes.length();
        Mill m = new Mill();
        for (int k = 0; k < n * n * n * n; k++) {
            StringBuilder s = new StringBuilder();
            for (int left = k; left > 0 || s.length() == 0; left /= n) {
                s.append(bytes.charAt(left % n));
            }
            signsBetween(m, s.toString());
            // An object is used for 512 calls at most.
            m = k % 60 == 0 ? new Mill() : m;
        }
    }

    private static void signsBetween(Mill m, String bytes) {
        List<String> tokens = longest(bytes);
        String head = "main{assert 1";
        int place = head.length();
        int wrong = JanusMill.NONE;
        for (int t = 0; t < tokens.size() && wrong < 0; t++) {
            if (!has(t == 0 ? BINARY : AHEAD, tokens.get(t))) {
                wrong = place;
            }
            place += tokens.get(t).length();
        }
        Mill.due("load() with " + bytes, m.load(head + bytes + "1;}"), wrong < 0 ? 3 : JanusMill.NONE);
        Mill.due("fault(1) with " + bytes, m.mill.fault(1), wrong);
    }

    /** "RANGE: of a ROW 1 .. 200". */
    private static void lengthsOfRows() {
        for (int n : new int[] {1, 2, 199, 200}) {
            Mill.fine("byte a[" + n + "];main{}");
        }
        Mill.faulty(3, "byte a[@0];main{}");
        Mill.faulty(3, "byte a[@201];main{}");
        Mill.faulty(3, "byte a[1],b[@0];main{}");
        Mill.faulty(3, "byte a[@4294967297];main{}");
    }

    /** "of a STACK 1 .. 40". */
    private static void lengthsOfStacks() {
        for (int n : new int[] {1, 2, 39, 40}) {
            Mill.fine("stack long s[" + n + "];main{}");
        }
        Mill.faulty(3, "stack long s[@0];main{}");
        Mill.faulty(3, "stack long s[@41];main{}");
        Mill.faulty(3, "stack long s[@4294967297];main{}");
    }

    /** "behind *= and /= a NUMBER that is even". */
    private static void factors() {
        for (int n = 0; n < 9; n++) {
            for (String operator : new String[] {"*=", "/="}) {
                if (n % 2 == 0) {
                    faulty(3, "x " + operator + " @" + n + ";");
                } else {
                    fine("x " + operator + " " + n + ";");
                }
            }
        }
    }

    private static String list(int n, String one, String between) {
        StringBuilder s = new StringBuilder();
        for (int i = 0; i < n; i++) {
            s.append(i == 0 ? "" : between).append(one).append(i);
        }
        return s.toString();
    }

    /** "the 41st declared NAME", of every sort. */
    private static void declaredNames() {
        Mill.fine("int " + list(39, "n", ",") + ";main{}");
        Mill.fine("int " + list(40, "n", ",") + ";main{}");
        Mill.faulty(4, "int " + list(40, "n", ",") + ",@n40;main{}");
        Mill.faulty(4, "int " + list(40, "n", ",") + ",@n40[1];main{}");
        Mill.fine("int " + list(39, "n", ",") + ";stack int s[1];main{}");
        Mill.fine("int " + list(39, "n", ",") + ";long r[1];main{}");
        Mill.faulty(4, "int " + list(39, "n", ",") + ";stack int s[1];byte @r[1];main{}");
        Mill.faulty(4, "int " + list(39, "n", ",") + ";stack int s[1];stack int @r[1];main{}");
    }

    /** "the 17th procedure (at its NAME)". */
    private static void procedures() {
        Mill.fine(list(15, "proc p", "(){}") + "(){}main{}");
        Mill.fine(list(16, "proc p", "(){}") + "(){}main{}");
        Mill.faulty(4, list(16, "proc p", "(){}") + "(){}proc @p16(){}main{}");
        Mill.faulty(1, list(16, "proc p", "(){}") + "(){}proc @(){}main{}");
    }

    /** "the 7th param (at its NAME)", of every sort. */
    private static void params() {
        for (String kind : new String[] {"int p", "stack byte p"}) {
            Mill.fine("proc p(" + list(5, kind, ",") + "){}main{}");
            Mill.fine("proc p(" + list(6, kind, ",") + "){}main{}");
            Mill.faulty(4, "proc p(" + list(6, kind, ",") + ",int @z){}main{}");
            Mill.faulty(4, "proc p(" + list(6, kind, ",") + ",int @z[]){}main{}");
            Mill.faulty(4, "proc p(" + list(6, kind, ",") + ",stack int @z){}main{}");
            Mill.faulty(1, "proc p(" + list(6, kind, ",") + ",@z){}main{}");
        }
        Mill.fine("proc p(" + list(6, "int p", "[],") + "[]){}main{}");
        Mill.faulty(4, "proc p(" + list(6, "int p", "[],") + "[],int @z[]){}main{}");
    }

    private static String nested(int n, String inner) {
        StringBuilder s = new StringBuilder();
        for (int i = 0; i < n; i++) {
            s.append("local int k").append(i).append("=0{");
        }
        return s.append(inner).append("}delocal 0;".repeat(n)).toString();
    }

    /** "a local within 12 others of its procedure or main (at its NAME)". */
    private static void locals() {
        Mill.fine("main{" + nested(11, "") + "}");
        Mill.fine("main{" + nested(12, "") + "}");
        Mill.faulty(4, "main{" + nested(12, "local int @z=0{}delocal 0;") + "}");
        Mill.faulty(1, "main{" + nested(12, "local @z=0{}delocal 0;") + "}");
        // Those behind one another are not within one another.
        Mill.fine("main{" + nested(12, "") + nested(12, "") + nested(11, nested(0, "local int y=0{}delocal 0;").repeat(2)) + "}");
        Mill.faulty(4, "main{" + nested(12, "") + nested(12, "local int @y=0{}delocal 0;") + "}");
    }

    private static void localsOfProcedure() {
        String head = "proc p(" + list(6, "int p", ",") + "){";
        Mill.fine(head + nested(12, "k11+=p5;") + "}main{" + nested(12, "") + "}");
        Mill.faulty(4, head + nested(12, "local int @z=0{}delocal 0;") + "}main{}");
        Mill.faulty(4, head + nested(12, "") + "}main{" + nested(12, "local int @z=0{}delocal 0;") + "}");
    }

    /** "a NUMBER in [ ] by which all ROWS and STACKS have more than 1000 numbers". */
    private static void numbersInAll() {
        String most = "int x,a[200],b[200],c[200],d[200]";
        Mill.fine(most + ",e[199];main{}");
        Mill.fine(most + ",e[200];main{}");
        Mill.fine(most + ",e[199],f[1];main{}");
        Mill.faulty(4, most + ",e[199],f[@2];main{}");
        Mill.faulty(4, most + ",e[200],f[@1];main{}");
        Mill.fine(most + ",e[160];stack int s[40];main{}");
        Mill.fine(most + ",e[161];stack int s[39];main{}");
        Mill.faulty(4, most + ",e[161];stack int s[@40];main{}");
        Mill.faulty(4, "stack int s[1];" + most + ",e[@200];main{}");
        Mill.faulty(3, most + ",e[200];stack int s[@41];main{}");
        // A SCALAR is none of these.
        Mill.fine(most + ",e[200],y,z;main{}");
    }

    /** "the 17th { that is open". */
    private static void openBlocks() {
        String[][] around = {{"if 1", "fi 1;"}, {"if 1{}else", "fi 1;"}, {"from 1 do", "until 1;"}, {"from 1 do{}loop", "until 1;"},
            {"from 1 loop", "until 1;"}};
        for (String[] a : around) {
            Mill.fine("main{" + (a[0] + "{").repeat(14) + ("}" + a[1]).repeat(14) + "}");
            Mill.fine("main{" + (a[0] + "{").repeat(15) + ("}" + a[1]).repeat(15) + "}");
            // Of a statement with two blocks the first one is the 17th already.
            String first = a[0].contains("{") ? a[0].replace("{", "@{") + "{" : a[0] + "@{";
            Mill.faulty(4, "main{" + (a[0] + "{").repeat(15) + first + ("}" + a[1]).repeat(16) + "}");
        }
        String ifs = "if 1{".repeat(4);
        Mill.fine("main{" + "if 1{".repeat(3) + nested(12, "") + "}fi 1;".repeat(3) + "}");
        Mill.faulty(4, "main{" + ifs + nested(11, "local int z=0@{}delocal 0;") + "}fi 1;".repeat(4) + "}");
        Mill.faulty(4, "proc p(){" + "if 1{".repeat(15) + "if 1@{}fi 1;" + "}fi 1;".repeat(15) + "}main{}");
        Mill.fine("proc p(){" + "if 1{".repeat(15) + "}fi 1;".repeat(15) + "}main{" + "if 1{".repeat(15) + "}fi 1;".repeat(15) + "}");
    }

    /** "the 41st thing open in a statement ( ( and [ , - ~ ! ahead": the 40th of each sort, and one more. */
    private static void openThings() {
        String[][] things = {{"(1)", "@(1)"}, {"a[0]", "a@[0]"}, {"-1", "@-1"}, {"~1", "@~1"}, {"!1", "@!1"}, {"top(s)", "top@(s)"},
            {"size(a)", "size@(a)"}, {"empty(s)", "empty@(s)"}};
        for (String[] t : things) {
            fine("x += " + "(".repeat(38) + t[0] + ")".repeat(38) + ";");
            fine("x += " + "(".repeat(39) + t[0] + ")".repeat(39) + ";");
            faulty(4, "x += " + "(".repeat(40) + t[1] + ")".repeat(40) + ";");
            // The [ of a statement's own place is one of them.
            String own = t[0].replace("a", "b");
            if (own.equals(t[0])) {
                fine("a[" + "(".repeat(38) + t[0] + ")".repeat(38) + "] += 1;");
                faulty(4, "a[" + "(".repeat(39) + t[1] + ")".repeat(39) + "] += 1;");
                faulty(4, "x <=> a[" + "(".repeat(39) + t[1] + ")".repeat(39) + "];");
                faulty(4, "push a[" + "(".repeat(39) + t[1] + ")".repeat(39) + "], s;");
            }
        }
        for (String statement : new String[] {"assert %;", "if % {} fi 1;", "if 1 {} fi %;", "from % until 1;", "from 1 until %;",
            "local int k = % {} delocal 1;", "local int k = 1 {} delocal %;"}) {
            fine(statement.replace("%", "(".repeat(40) + "1" + ")".repeat(40)));
            faulty(4, statement.replace("%", "(".repeat(40) + "@(1" + ")".repeat(41)));
        }
    }

    /** "each to its end": what has ended makes room again. */
    private static void thingsEnd() {
        String open = "(".repeat(39);
        String close = ")".repeat(39);
        fine("x += " + open + "(1) + (1) + a[1] + -1 + ~1 + !1 + top(s) + -y" + close + ";");
        faulty(4, "x += " + open + "(1) + (@(1))" + close + ";");
        faulty(4, "x += " + open + "-1 + -@-1" + close + ";");
        faulty(4, "x += " + open + "-y + -a@[1]" + close + ";");
        faulty(4, "x += " + open + "-@(1)" + close + ";");
        faulty(4, "x += " + open + "-top@(s)" + close + ";");
        fine("x += " + open + "-1" + close + " + " + open + "-1" + close + ";");
    }

    /** "the 601st INSTRUCTION (at the TOKEN that is its PLACE, II)". */
    private static void instructions() {
        Mill m = new Mill();
        Mill.due("load() of 599", m.load("main{" + "skip;".repeat(597) + "}"), 599);
        Mill.due("load() of 600", m.load("main{" + "skip;".repeat(598) + "}"), 600);
        Mill.due("code(599, 0)", m.mill.code(599, 0), 2);
        Mill.due("code(600, 0)", m.mill.code(600, 0), JanusMill.NONE);
        Mill.due("write(false)", m.mill.write(false), 7 + 598 * 7 + 2);
        Mill.due("load() of 601", m.load("main{" + "skip;".repeat(599) + "}"), JanusMill.NONE);
        Mill.due("fault(0)", m.mill.fault(0), 4);
        Mill.due("fault(1)", m.mill.fault(1), 5 + 599 * 5);
        Mill.due("count(3)", m.mill.count(3), 600);
    }

    /** Each INSTRUCTION as the 600th (but for main's END) and as the 601st. */
    private static void lastInstruction() {
        String head = "int x;stack int s[1];proc p(){}main{";
        String[] one = {"x+=1;", "x<=>x;", "push x,s;", "pop x,s;", "assert 1;", "skip;", "call p();", "uncall p();"};
        String[] marked = {"x@+=1;", "x@<=>x;", "@push x,s;", "@pop x,s;", "@assert 1;", "@skip;", "@call p();", "@uncall p();"};
        for (int i = 0; i < one.length; i++) {
            Mill.fine(head + "skip;".repeat(595) + one[i] + "}");
            Mill.faulty(4, head + "skip;".repeat(596) + one[i] + "@}");
            Mill.faulty(4, head + "skip;".repeat(597) + marked[i] + "}");
        }
        String[][] more = {
            {"3", "if 1{}fi 1;", "@if 1{}fi 1;", "if 1{}@fi 1;", "if 1{}@fi 1;"},
            {"3", "if 1{}else{}fi 1;", "@if 1{}else{}fi 1;", "if 1{}@else{}fi 1;", "if 1{}else{}@fi 1;"},
            {"3", "from 1 until 1;", "@from 1 until 1;", "from 1 @until 1;", "from 1 @until 1;"},
            {"2", "local int k=1{}delocal 1;", "@local int k=1{}delocal 1;", "local int k=1{}@delocal 1;"},
        };
        for (String[] m : more) {
            int n = Integer.parseInt(m[0]);
            Mill.fine(head + "skip;".repeat(596 - n) + m[1] + "}");
            Mill.faulty(4, head + "skip;".repeat(597 - n) + m[1] + "@}");
            for (int k = 0; k < n; k++) {
                Mill.faulty(4, head + "skip;".repeat(597 - k) + m[2 + k] + "}");
            }
        }
        Mill.fine("proc p(){" + "skip;".repeat(596) + "}main{}");
        Mill.faulty(4, "proc p(){" + "skip;".repeat(597) + "}main{@}");
        Mill.faulty(4, "proc p(){" + "skip;".repeat(598) + "}@main{}");
        Mill.faulty(4, "proc p(){" + "skip;".repeat(599) + "@}main{}");
        Mill.faulty(4, "proc p(){" + "skip;".repeat(598) + "}@proc q(){}main{}");
    }

    /** "HEIGHT: more than 16 PARTS of an ex in one another .. at the operator", of each operator. */
    private static void heightOfOperators() {
        for (String operator : BINARY) {
            String left = "1" + ("+1").repeat(13);
            // Of height 15 by the left one, then by the right one.
            fine("x += (" + left + "+1)" + operator + "1;");
            fine("x += 1" + operator + "(" + left + "+1);");
            faulty(8, "x += (" + left + "+1+1)@" + operator + "1;");
            faulty(8, "x += 1@" + operator + "(" + left + "+1+1);");
            faulty(8, "x += 1@" + operator + "(" + left + "+1+1)");
            faulty(8, "x += 1@" + operator + "(" + left + "+1+1) $;");
            faulty(8, "x += 1@" + operator + "(" + left + "+1+1) z;");
            // Not whole yet, as long as what binds more tightly may come behind.
            faulty(1, "x += (" + left + "+1+1)" + operator + "@;");
            faulty(1, "x += (" + left + "+1+1)" + operator + "@$;");
            faulty(2, "x += (" + left + "+1+1)" + operator + "@z;");
            faulty(5, "x += (" + left + "+1+1)" + operator + "@a;");
            faulty(6, "x += (" + left + "+1+1)" + operator + "@x;");
        }
        fine("x += (1" + "+1".repeat(14) + ")+1*1;");
        faulty(8, "x += 1@+1*(1" + "+1".repeat(13) + ")*1;");
        faulty(8, "x += 1*(1" + "+1".repeat(13) + ")*1@*1;");
        fine("x += 1<<1+(1" + "+1".repeat(13) + ");");
        faulty(8, "x += 1@<<1+(1" + "+1".repeat(14) + ") $;");
    }

    /** HEIGHT of - ~ ! ahead. */
    private static void heightOfAhead() {
        for (String operator : AHEAD) {
            for (String operand : new String[] {"1", "y", "(y)", "top(s)", "size(a)", "empty(s)"}) {
                fine("x += " + (operator + " ").repeat(14) + operand + ";");
                fine("x += " + (operator + " ").repeat(15) + operand + ";");
                faulty(8, "x += @" + (operator + " ").repeat(16) + operand + ";");
                faulty(8, "x += @" + (operator + " ").repeat(16) + operand + " $");
            }
            fine("x += " + (operator + " ").repeat(14) + "a[1];");
            faulty(8, "x += @" + (operator + " ").repeat(15) + "a[1];");
            faulty(1, "x += " + (operator + " ").repeat(16) + "@;");
            faulty(5, "x += " + (operator + " ").repeat(16) + "@a;");
            faulty(6, "x += " + (operator + " ").repeat(16) + "@x;");
        }
    }

    /** "(a ROW's place is one over its ex), .. (of a ROW's place its NAME)". */
    private static void heightOfPlaces() {
        fine("x += a[1" + "+1".repeat(13) + "];");
        fine("x += a[1" + "+1".repeat(14) + "];");
        faulty(8, "x += @a[1" + "+1".repeat(15) + "];");
        faulty(8, "x += @a[1" + "+1".repeat(15) + "] $;");
        faulty(8, "x += @a[1" + "+1".repeat(15) + "] + z;");
        faulty(1, "x += a[1" + "+1".repeat(15) + "@;");
        faulty(1, "x += a[1" + "+1".repeat(15) + "@);");
        fine("x += 1 + a[1" + "+1".repeat(13) + "];");
        faulty(8, "x += 1 @+ a[1" + "+1".repeat(14) + "];");
        // top, size and empty are one PART with their NAMES.
        fine("x += a[" + "-".repeat(14) + "top(s)];");
        faulty(8, "x += @a[" + "-".repeat(15) + "top(s)];");
    }

    /** A statement's own place is no PART of an ex: the ex in its [ ] may be as high as any other, and no PART is counted for it. */
    private static void heightOfStatementPlace() {
        String ex = "1" + "+1".repeat(15);
        for (String statement : new String[] {"a[%] += 1;", "a[%] *= 3;", "a[%] <=> x;", "x <=> a[%];", "push a[%], s;", "pop a[%], s;"}) {
            fine(statement.replace("%", ex));
            faulty(8, statement.replace("%", ex + "@+1"));
            Mill m = Mill.of(DECLARED + statement.replace("%", "y") + "}");
            Mill.due("count(4) of " + statement, m.mill.count(4), statement.equals("a[%] += 1;") ? 2 : 1);
        }
    }

    /** Of several operators that are whole by the same TOKEN the innermost one that is too high comes first. */
    private static void highestOfMany() {
        faulty(8, "x += -@-" + "-".repeat(15) + "1;");
        faulty(8, "x += --@~" + "!".repeat(15) + "1;");
        faulty(8, "x += 1+1@*(1" + "+1".repeat(15) + ");");
        faulty(8, "x += 1<1+@-(1" + "+1".repeat(15) + ");");
        faulty(8, "x += 1+@a[1" + "+1".repeat(15) + "];");
    }

    /** "ARGUMENTS: at a NAME by which there are too many, at the ) too few", of procedures with 0 to 6 params, behind them and ahead. */
    private static void argumentsGiven() {
        for (int n = 0; n <= 6; n++) {
            String declared = "int " + list(8, "v", ",") + ";";
            String procedure = "proc p(" + list(n, "int n", ",") + "){}";
            for (int given = 0; given <= 8; given++) {
                String marked;
                if (given <= n) {
                    marked = list(given, "v", ",") + "@";
                } else {
                    marked = list(n, "v", ",") + (n == 0 ? "@" : ",@") + list(given, "v", ",").substring(n == 0 ? 0 : list(n, "v", ",").length() + 1);
                }
                String plain = marked.replace("@", "");
                if (given == n) {
                    Mill.fine(declared + procedure + "main{call p(" + plain + ");uncall p(" + plain + ");}");
                } else {
                    Mill.faulty(7, declared + procedure + "main{call p(" + marked + ");}");
                    Mill.faulty(7, declared + procedure + "main{uncall p(" + marked + ");}");
                    ahead(n, given, marked);
                }
            }
        }
    }

    /** The same call in a procedure that comes first; it has six params of its own to give. */
    private static void ahead(int n, int given, String marked) {
        if (given <= 6) {
            String call = "proc q(" + list(6, "int v", ",") + "){call p(" + marked + ");}";
            Mill.faulty(7, call + "proc p(" + list(n, "int n", ",") + "){}main{}");
        }
    }

    /** "(Where a procedure is called that has not begun yet, 2 of it, and 5 and 7 of the arguments are told behind the whole text ..)". */
    private static void callsAhead() {
        String q = "proc q(int a,byte b){}";
        // One that has begun: told where it stands. One that has not: behind all else, up to the end of the text.
        Mill.faulty(5, q + "proc p(int a,byte b){call q(@b,a);}main{z+=1;}");
        Mill.faulty(2, "proc p(int a,byte b){call q(b,a);}" + q + "main{@z+=1;}");
        Mill.faulty(1, "proc p(int a,byte b){call q(b,a);}" + q + "main{}@z");
        Mill.faulty(7, q + "proc p(int a,byte b){call q(a@);}main{z+=1;}");
        Mill.faulty(2, "proc p(int a,byte b){call q(a);}" + q + "main{@z+=1;}");
        Mill.faulty(8, "proc p(int a,byte b){call q(a);}" + q + "main{assert 1" + "+1".repeat(15) + "@+1;}");
        // Its own NAME has begun.
        Mill.faulty(7, "proc p(int a,byte b){call p(a@);}main{z+=1;}");
        Mill.faulty(5, "proc p(int a,byte b){uncall p(@b,a);}main{z+=1;}");
        // 2 and 6 of the arguments come at once.
        Mill.faulty(2, "proc p(int a,byte b){call q(a,@z);call q(b,a);}" + q + "main{}");
        Mill.faulty(6, "proc p(int a,byte b){call q(b,@b);}" + q + "main{}");
        // Call by call, in the order of TOKENS.
        Mill.faulty(7, "proc p(int a,byte b){call q(a@);call q(b,a);call r();}" + q + "main{call r();}");
        Mill.faulty(5, "proc p(int a,byte b){call q(@b,a);call q(a);call r();}" + q + "main{call r();}");
        Mill.faulty(2, "proc p(int a,byte b){call @r();call q(b,a);call q(a);}" + q + "main{call r();}");
        Mill.faulty(5, "proc p(int a,byte b,int c){call q(@b,a,c);}" + q + "main{}");
        Mill.faulty(7, "proc p(int a,byte b,int c){call q(a,b,@c);}" + q + "main{}");
    }

    /** A procedure that never comes has not begun either, also where main calls it. */
    private static void callsOfNothing() {
        Mill.faulty(2, "main{call @r();}");
        Mill.faulty(2, "int x;main{uncall @r(x);}");
        Mill.faulty(1, "main{call r();}@}");
        Mill.faulty(2, "int x;main{call r();@z+=1;}");
        Mill.faulty(1, "main{call r()@}");
        Mill.faulty(2, "proc p(){}main{call p();call @r();call t();}");
        Mill.faulty(6, "int x;main{call r(x,@x);}");
    }

    /** "THE TAPE (empty then) .. NONE with a FAULT: all that there was stays." */
    private static void tapeBehindLoad() {
        Mill m = new Mill();
        m.tape("main{}");
        Mill.due("load()", m.mill.load(), 2);
        Mill.due("count(0)", m.mill.count(0), 0);
        Mill.due("load() of the empty tape", m.mill.load(), JanusMill.NONE);
        Mill.due("fault(0)", m.mill.fault(0), 1);
        Mill.due("fault(1)", m.mill.fault(1), 0);
        Mill.due("count(3)", m.mill.count(3), 2);
        m.tape("main{}}");
        Mill.due("load()", m.mill.load(), JanusMill.NONE);
        Mill.due("count(0)", m.mill.count(0), 7);
        Mill.due("load() again", m.mill.load(), JanusMill.NONE);
        Mill.due("fault(1)", m.mill.fault(1), 6);
        Mill.due("end(6)", m.mill.end(6), 6);
        Mill.due("fault(1) stays", m.mill.fault(1), 6);
        Mill.due("load() of the rest", m.mill.load(), 2);
        Mill.due("fault(0)", m.mill.fault(0), 0);
        Mill.due("fault(1)", m.mill.fault(1), JanusMill.NONE);
        Mill.due("count(0)", m.mill.count(0), 0);
    }
}
