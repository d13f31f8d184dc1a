/** Promises 18 and 19, and of the Terms part III: how a program is written, and THE INVERSE. */
public final class WriteTest {
    public static void main(String[] args) {
        small();
        kinds();
        statements();
        blocks();
        procedures();
        brackets();
        operatorsInPairs();
        highestInStatements();
        outStays();
        readsTheSame();
        inverseRuns();
        longest();
        Mill.finish();
    }

    private static void written(String text, String due, String inverseDue) {
        Mill m = Mill.of(text);
        Mill.due("write(false) of " + text, m.written(false), due);
        Mill.due("write(true) of " + text, m.written(true), inverseDue);
    }

    private static void small() {
        written("main{}", "main {\n}\n", "main {\n}\n");
        written("#c\nint a,b[007];stack long s[040];byte c;main{}",
            "int a ;\nint b [ 7 ] ;\nstack long s [ 40 ] ;\nbyte c ;\nmain {\n}\n",
            "int a ;\nint b [ 7 ] ;\nstack long s [ 40 ] ;\nbyte c ;\nmain {\n}\n");
        Mill m = Mill.of("main{skip;}");
        Mill.due("out(0) at first", m.mill.out(0), JanusMill.NONE);
        Mill.due("write(false)", m.mill.write(false), 16);
        Mill.due("out(0)", m.mill.out(0), 'm');
        Mill.due("out(15)", m.mill.out(15), '\n');
        for (int i : new int[] {-1, 16, 11999, 12000, Integer.MAX_VALUE, Integer.MIN_VALUE}) {
            Mill.due("out(" + i + ")", m.mill.out(i), JanusMill.NONE);
        }
    }

    private static void kinds() {
        for (String kind : new String[] {"byte", "short", "int", "long"}) {
            String due = "% x ;\n% r [ 2 ] ;\nstack % s [ 1 ] ;\nproc p ( % x , % r [ ] , stack % s ) {\n}\nmain {\nlocal % k = 1 {\n}\ndelocal 1 ;\n}\n"
                .replace("%", kind);
            written("% x,r[2];stack % s[1];proc p(% x,% r[],stack % s){}main{local % k=1{}delocal 1;}".replace("%", kind), due, due);
        }
    }

    private static void statements() {
        written("int x,y,a[2];stack int s[2];main{x+=1;x-=2;x^=3;x<<=4;x>>=5;x*=7;x/=009;x<=>a[1];push a[0],s;pop y,s;assert x;skip;}",
            "int x ;\nint y ;\nint a [ 2 ] ;\nstack int s [ 2 ] ;\nmain {\n"
                + "x += 1 ;\nx -= 2 ;\nx ^= 3 ;\nx <<= 4 ;\nx >>= 5 ;\nx *= 7 ;\nx /= 9 ;\nx <=> a [ 1 ] ;\npush a [ 0 ] , s ;\npop y , s ;\n"
                + "assert x ;\nskip ;\n}\n",
            "int x ;\nint y ;\nint a [ 2 ] ;\nstack int s [ 2 ] ;\nmain {\n"
                + "skip ;\nassert x ;\npush y , s ;\npop a [ 0 ] , s ;\nx <=> a [ 1 ] ;\nx *= 9 ;\nx /= 7 ;\nx <<= 5 ;\nx >>= 4 ;\nx ^= 3 ;\n"
                + "x += 2 ;\nx -= 1 ;\n}\n");
    }

    private static void blocks() {
        written("int x;main{if x{x+=1;skip;}fi 2;}",
            "int x ;\nmain {\nif x {\nx += 1 ;\nskip ;\n}\nelse {\n}\nfi 2 ;\n}\n",
            "int x ;\nmain {\nif 2 {\nskip ;\nx -= 1 ;\n}\nelse {\n}\nfi x ;\n}\n");
        written("int x;main{if 1{x+=1;x*=3;}else{x+=2;x*=5;}fi 2;skip;}",
            "int x ;\nmain {\nif 1 {\nx += 1 ;\nx *= 3 ;\n}\nelse {\nx += 2 ;\nx *= 5 ;\n}\nfi 2 ;\nskip ;\n}\n",
            "int x ;\nmain {\nskip ;\nif 2 {\nx /= 3 ;\nx -= 1 ;\n}\nelse {\nx /= 5 ;\nx -= 2 ;\n}\nfi 1 ;\n}\n");
        written("int x;main{from 1 until 2;}",
            "int x ;\nmain {\nfrom 1 do {\n}\nloop {\n}\nuntil 2 ;\n}\n",
            "int x ;\nmain {\nfrom 2 do {\n}\nloop {\n}\nuntil 1 ;\n}\n");
        written("int x;main{from 1 do{x+=1;x*=3;}loop{x+=2;x*=5;}until 2;}",
            "int x ;\nmain {\nfrom 1 do {\nx += 1 ;\nx *= 3 ;\n}\nloop {\nx += 2 ;\nx *= 5 ;\n}\nuntil 2 ;\n}\n",
            "int x ;\nmain {\nfrom 2 do {\nx /= 3 ;\nx -= 1 ;\n}\nloop {\nx /= 5 ;\nx -= 2 ;\n}\nuntil 1 ;\n}\n");
        written("main{local byte k=1{k+=2;local long l=k{}delocal 4;}delocal 3;}",
            "main {\nlocal byte k = 1 {\nk += 2 ;\nlocal long l = k {\n}\ndelocal 4 ;\n}\ndelocal 3 ;\n}\n",
            "main {\nlocal byte k = 3 {\nlocal long l = 4 {\n}\ndelocal k ;\nk -= 2 ;\n}\ndelocal 1 ;\n}\n");
        written("main{if 1{from 2 loop{skip;if 3{}else{assert 4;skip;}fi 5;}until 6;}else{assert 7;}fi 8;}",
            "main {\nif 1 {\nfrom 2 do {\n}\nloop {\nskip ;\nif 3 {\n}\nelse {\nassert 4 ;\nskip ;\n}\nfi 5 ;\n}\nuntil 6 ;\n}\nelse {\nassert 7 ;\n}\nfi 8 ;\n}\n",
            "main {\nif 8 {\nfrom 6 do {\n}\nloop {\nif 5 {\n}\nelse {\nskip ;\nassert 4 ;\n}\nfi 3 ;\nskip ;\n}\nuntil 2 ;\n}\nelse {\nassert 7 ;\n}\nfi 1 ;\n}\n");
    }

    private static void procedures() {
        written("int x,r[2];stack int s[1];proc p(int n,int t[],stack int u){n+=1;call q(t,n);}proc q(int r[],int b){uncall q(r,b);skip;}proc n(){}main{call p(x,r,s);uncall n();}",
            "int x ;\nint r [ 2 ] ;\nstack int s [ 1 ] ;\nproc p ( int n , int t [ ] , stack int u ) {\nn += 1 ;\ncall q ( t , n ) ;\n}\n"
                + "proc q ( int r [ ] , int b ) {\nuncall q ( r , b ) ;\nskip ;\n}\nproc n ( ) {\n}\nmain {\ncall p ( x , r , s ) ;\nuncall n ( ) ;\n}\n",
            "int x ;\nint r [ 2 ] ;\nstack int s [ 1 ] ;\nproc p ( int n , int t [ ] , stack int u ) {\ncall q ( t , n ) ;\nn -= 1 ;\n}\n"
                + "proc q ( int r [ ] , int b ) {\nskip ;\nuncall q ( r , b ) ;\n}\nproc n ( ) {\n}\nmain {\nuncall n ( ) ;\ncall p ( x , r , s ) ;\n}\n");
    }

    private static void ex(String ex, String due) {
        Mill m = Mill.of("int x,y,z;int a[3];stack int s[1];main{assert " + ex + ";}");
        String text = m.written(false);
        Mill.due("written " + ex, text.substring(text.indexOf("assert")), "assert " + due + " ;\n}\n");
    }

    private static void brackets() {
        ex("1", "1");
        ex("000", "0");
        ex("((x))", "x");
        ex("x+y", "( x + y )");
        ex("(x+y)", "( x + y )");
        ex("x-y-z", "( ( x - y ) - z )");
        ex("x-(y-z)", "( x - ( y - z ) )");
        ex("x+y*z", "( x + ( y * z ) )");
        ex("-x", "( - x )");
        ex("-~!x", "( - ( ~ ( ! x ) ) )");
        ex("-(x+1)*2", "( ( - ( x + 1 ) ) * 2 )");
        ex("a[x+1]", "a [ ( x + 1 ) ]");
        ex("a[a[0]]>>>top(s)", "( a [ a [ 0 ] ] >>> top ( s ) )");
        ex("size(a)!=size(s)||empty(s)", "( ( size ( a ) != size ( s ) ) || empty ( s ) )");
        ex("1||2&&3|4^5&6==7<8<<9+10*11", "( 1 || ( 2 && ( 3 | ( 4 ^ ( 5 & ( 6 == ( 7 < ( 8 << ( 9 + ( 10 * 11 ) ) ) ) ) ) ) ) ) )");
        ex("1%2/3>=4>5<=6>>7", "( ( ( ( ( 1 % 2 ) / 3 ) >= 4 ) > 5 ) <= ( 6 >> 7 ) )");
        ex("999999999999999999", "999999999999999999");
        // Sixteen PARTS in one another, on each side.
        ex("1" + "+1".repeat(15), "( ".repeat(15) + "1" + " + 1 )".repeat(15));
        ex("1+(".repeat(14) + "1+1" + ")".repeat(14), "( 1 + ".repeat(15) + "1" + " )".repeat(15));
        ex("~".repeat(15) + "x", "( ~ ".repeat(15) + "x" + " )".repeat(15));
        ex("a[".repeat(15) + "x" + "]".repeat(15), "a [ ".repeat(15) + "x" + " ]".repeat(15));
        ex("-".repeat(14) + "a[x]", "( - ".repeat(14) + "a [ x ]" + " )".repeat(14));
    }

    /** "by || , && , | , ^ , & , == != , < <= > >= , << >> >>> , + - , * / % , from the loosest on, each from the left". */
    private static void operatorsInPairs() {
        String[] levels = {"||", "&&", "|", "^", "&", "== !=", "< <= > >=", "<< >> >>>", "+ -", "* / %"};
        for (int i = 0; i < levels.length; i++) {
            for (int j = 0; j < levels.length; j++) {
                for (String first : levels[i].split(" ")) {
                    for (String second : levels[j].split(" ")) {
                        boolean fromLeft = i >= j;
                        String due = fromLeft ? "( ( x " + first + " y ) " + second + " z )" : "( x " + first + " ( y " + second + " z ) )";
                        ex("x " + first + " y " + second + " z", due);
                    }
                }
            }
        }
    }

    /** An ex of sixteen PARTS in one another is written to the last of them, in each place that an ex can have. */
    private static void highestInStatements() {
        String ex = "!".repeat(15) + "p";
        String due = "( ! ".repeat(15) + "p" + " )".repeat(15);
        for (String statement : new String[] {"x += % ;", "a [ % ] += 1 ;", "a [ % ] <=> x ;", "x <=> a [ % ] ;", "push a [ % ] , s ;", "pop a [ % ] , s ;",
            "assert % ;", "if % {\n}\nelse {\n}\nfi % ;", "from % do {\n}\nloop {\n}\nuntil % ;", "local int k = % {\n}\ndelocal % ;"}) {
            Mill m = Mill.of("int x,p,a[2];stack int s[1];main{" + statement.replace("%", ex) + "}");
            String text = m.written(false);
            Mill.due("written " + statement, text.substring(text.indexOf("main")), "main {\n" + statement.replace("%", due) + "\n}\n");
        }
    }

    private static void outStays() {
        Mill m = Mill.of("main{skip;}");
        m.mill.write(false);
        Mill.due("load()", m.load("main{}"), 2);
        Mill.due("out", m.out(), "main {\nskip ;\n}\n");
        m.load("main{");
        Mill.due("out", m.out(), "main {\nskip ;\n}\n");
        Mill.due("write(true)", m.mill.write(true), 9);
        Mill.due("out", m.out(), "main {\n}\n");
        Mill n = Mill.of("int x; main { x += 1; x *= 3; }");
        n.mill.begin(false);
        n.mill.step(1);
        String all = n.all();
        n.mill.write(true);
        Mill.due("all is as it was", n.all(), all);
    }

    private static final String[] PROGRAMS = {
        "int n, x, y; proc fib(int n, int x, int y) { if n == 0 { x += 1; y += 1; } else { n -= 1; call fib(n, x, y); x += y; x <=> y; } fi x == y; }"
            + "main { n += 9; call fib(n, x, y); }",
        "int n, f; int t[6]; proc sum(int t[], int f) { local int k = 0 { from k == 0 do { f += t[k]; } loop { k += 1; } until k == size(t) - 1; } delocal size(t) - 1; }"
            + "proc twice(int t[], int f) { call sum(t, f); uncall sum(t, f); call sum(t, f); }"
            + "main { from n == 0 loop { t[n] += n * n; n += 1; } until n == 6; call twice(t, f); n *= 77; t[2] <<= n; f ^= t[3]; }",
        "byte b; long l; stack byte s[5]; main { b += 77; push b, s; b -= 3; push b, s; l += top(s) * 1000 - size(s); b += 1; push b, s; pop b, s; b >>= 3; assert !empty(s); }",
    };

    private static void readsTheSame() {
        for (String text : PROGRAMS) {
            Mill m = Mill.of(text);
            String written = m.written(false);
            String inverse = m.written(true);
            Mill again = Mill.of(written);
            Mill.due("written again", again.written(false), written);
            Mill.due("its inverse", again.written(true), inverse);
            Mill.due("instructions", again.mill.count(3), m.mill.count(3));
            Mill.due("parts", again.mill.count(4), m.mill.count(4));
            Mill other = Mill.of(inverse);
            Mill.due("inverse of the inverse", other.written(true), written);
        }
    }

    private static void inverseRuns() {
        for (String text : PROGRAMS) {
            Mill m = Mill.of(text);
            String first = m.numbers();
            String last = m.run(false);
            Mill.due("ended", m.mill.state(0), 2);
            int steps = m.mill.drop();
            Mill other = Mill.of(m.written(true));
            for (int v = 0; v < m.mill.count(1); v++) {
                for (int i = 0; i < m.mill.size(v); i++) {
                    if (m.mill.variable(v, 0) == 2) {
                        other.mill.lay(v, m.mill.value(v, i));
                    } else {
                        other.mill.set(v, i, m.mill.value(v, i));
                    }
                }
            }
            Mill.due("numbers", other.numbers(), last);
            Mill.due("the inverse run forwards", other.run(false), first);
            Mill.due("ended", other.mill.state(0), 2);
            Mill.due("steps", other.mill.drop(), steps);
            Mill.due("run backwards", m.run(true), first);
        }
    }

    private static void longest() {
        // No text of 1500 TOKENS is written with more than 12000 bytes; this one comes near.
        StringBuilder s = new StringBuilder("long abcdefghijkl;main{");
        String ex = "-".repeat(15) + "abcdefghijkl";
        for (int i = 0; i < 42; i++) {
            s.append("from ").append(ex).append(" until ").append(ex).append(';');
        }
        Mill m = Mill.of(s.append("}").toString());
        String text = m.written(false);
        Mill.due("long text", text.length() > 9000 && text.length() <= 12000);
        Mill.due("out(length)", m.mill.out(text.length()), JanusMill.NONE);
        Mill.due("its end", text.substring(text.length() - 6), ") ;\n}\n");
    }
}
