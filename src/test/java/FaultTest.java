/** Promises 4 and 5, and of the Terms part I: TOKENS, the grammar, NAMES and the FAULTS. The mark @ tells the place that is due. */
public final class FaultTest {
    private static final String DECLARED = "int x, y; int a[4], b[3]; stack int s[3]; byte c; byte r[2]; stack byte t[2]; main { ";

    public static void main(String[] args) {
        tokens();
        syntaxAround();
        syntaxOfStatements();
        syntaxOfEx();
        names();
        localNames();
        ranges();
        roomOfNames();
        roomOfBlocks();
        roomOfOpenThings();
        roomOfTokens();
        roomOfInstructions();
        sorts();
        twice();
        arguments();
        argumentsAhead();
        heights();
        order();
        latestLoad();
        loadBehindFaults();
        cutTape();
        Mill.finish();
    }

    private static void fine(String statements) {
        Mill.fine(DECLARED + statements + " }");
    }

    private static void faulty(int kind, String statements) {
        Mill.faulty(kind, DECLARED + statements + " }");
    }

    private static String times(int n, String text) {
        return text.repeat(n);
    }

    private static void tokens() {
        Mill.fine("main{}");
        Mill.fine("#\nmain#}\n{#\n}#");
        Mill.fine(" \n main \n{ \n} \n");
        Mill.fine("int abcdefghijkl;main{}");
        Mill.fine("int a_9_z;main{}");
        Mill.faulty(1, "int @abcdefghijklm;main{}");
        Mill.faulty(1, "int @_a;main{}");
        Mill.faulty(1, "int @Abc;main{}");
        Mill.faulty(1, "int a@B;main{}");
        Mill.faulty(1, "int@\ta;main{}");
        Mill.faulty(1, "int@\r\na;main{}");
        Mill.faulty(1, "@\u00e9main{}");
        Mill.faulty(1, "@\0main{}");
        Mill.faulty(1, "@");
        Mill.faulty(1, "  # nothing\n  @");
        Mill.faulty(1, "# nothing @");
        fine("x += 999999999999999999;");
        fine("x += 000000000000000001;");
        faulty(1, "x += @0000000000000000001;");
        faulty(1, "x += @1000000000000000000;");
        faulty(1, "x += 1@x;");
        faulty(1, "x += y @$;");
        // Signs are the longest that there are.
        fine("x<<=y>>>y>>y<<y<y<=y>y>=y==y!=y&&y||y;");
        fine("x>>=y>- -~!y;");
        fine("x<=>y;x+=y- -1;");
        faulty(1, "x @< <= y;");
        faulty(1, "x @<= > y;");
        faulty(1, "x += y >>>@= y;");
        faulty(1, "x += y @+= 1;");
        faulty(1, "x += y @<<= y;");
        faulty(1, "x += y && @& y;");
    }

    private static void syntaxAround() {
        Mill.faulty(1, "int x@");
        Mill.faulty(1, "int x @main{}");
        Mill.faulty(1, "int x,@;main{}");
        Mill.faulty(1, "int @main;main{}");
        Mill.faulty(1, "int @;main{}");
        Mill.faulty(1, "int x[@];main{}");
        Mill.faulty(1, "int x[@x];main{}");
        Mill.faulty(1, "int x[1@;main{}");
        Mill.faulty(1, "int x[1]@[1];main{}");
        Mill.fine("int x[1],y,z[2];main{}");
        Mill.faulty(1, "stack @x[1];main{}");
        Mill.faulty(1, "stack int x@;main{}");
        Mill.faulty(1, "stack int x[1]@,y[1];main{}");
        Mill.faulty(1, "stack @stack int x[1];main{}");
        Mill.faulty(1, "@x;main{}");
        Mill.faulty(1, "proc p(){}@int x;main{}");
        Mill.faulty(1, "proc p(){}@stack int x[1];main{}");
        Mill.faulty(1, "proc p(){}@");
        Mill.faulty(1, "proc p@{}main{}");
        Mill.faulty(1, "proc @(){}main{}");
        Mill.faulty(1, "proc @main(){}main{}");
        Mill.faulty(1, "proc p(@x){}main{}");
        Mill.faulty(1, "proc p(int x,@){}main{}");
        Mill.faulty(1, "proc p(int x @int y){}main{}");
        Mill.faulty(1, "proc p(int x[@1]){}main{}");
        Mill.faulty(1, "proc p(stack int x@[]){}main{}");
        Mill.faulty(1, "proc p(stack @x){}main{}");
        Mill.faulty(1, "proc p()@;main{}");
        Mill.fine("proc p(int x, byte y[], stack long z, short w){}main{}");
        Mill.faulty(1, "main@");
        Mill.faulty(1, "main {@");
        Mill.faulty(1, "main@;");
        Mill.faulty(1, "main{}@;");
        Mill.faulty(1, "main{}@main{}");
        Mill.faulty(1, "main{}@}");
        Mill.faulty(1, "main{}@$");
        Mill.faulty(1, "main@(){}");
    }

    private static void syntaxOfStatements() {
        fine("x += 1; x -= 1; x ^= 1; x <<= 1; x >>= 1; x *= 3; x /= 3; a[1] += 2; x <=> y; x <=> a[y]; a[1] <=> b[2];");
        fine("push x, s; pop a[1], s; assert x; skip; if x {} fi y; if x {} else {} fi y;");
        fine("from x until y; from x do {} until y; from x loop {} until y; from x do {} loop {} until y;");
        fine("local int k = 1 { k += 1; } delocal 2;");
        faulty(1, "x @= 1;");
        faulty(1, "x @;");
        faulty(1, "x @skip;");
        faulty(1, "a[1] @y += 1;");
        faulty(1, "x @}");
        faulty(1, "x += @;");
        Mill.faulty(1, DECLARED + "x += 1 @}");
        Mill.faulty(1, DECLARED + "x += 1@");
        faulty(1, "x *= @y;");
        faulty(1, "x *= @(3);");
        faulty(1, "x *= @-3;");
        faulty(1, "x *= 3@+ 1;");
        faulty(1, "x <=> @1;");
        faulty(1, "x <=> y@+ 1;");
        faulty(1, "a[1@;");
        faulty(1, "a[@] += 1;");
        faulty(1, "push @1, s;");
        faulty(1, "push x @s;");
        faulty(1, "push x, @1;");
        faulty(1, "pop x, s@[1];");
        faulty(1, "if @{} fi 1;");
        faulty(1, "if x @fi 1;");
        faulty(1, "if x {} @;");
        faulty(1, "if x {} else @fi x;");
        faulty(1, "if x {} else {} @else {} fi x;");
        faulty(1, "if x {} else {} @until x;");
        faulty(1, "if x {} fi @;");
        Mill.faulty(1, DECLARED + "if x {} fi x @}");
        faulty(1, "from x @{} until x;");
        faulty(1, "from x loop {} @do {} until x;");
        faulty(1, "from x do {} @do {} until x;");
        faulty(1, "from x do @until x;");
        faulty(1, "from x loop {} @loop {} until x;");
        faulty(1, "from x do {} @fi x;");
        faulty(1, "from x @;");
        faulty(1, "local @k = 1 {} delocal 1;");
        faulty(1, "local int k @+= 1 {} delocal 1;");
        faulty(1, "local int k @[1] = 1 {} delocal 1;");
        faulty(1, "local int k = 1 @; {} delocal 1;");
        faulty(1, "local int k = 1 {} @;");
        faulty(1, "local int k = 1 {} @local 1;");
        faulty(1, "local @stack int k = 1 {} delocal 1;");
        faulty(1, "call @;");
        faulty(1, "call p@;");
        faulty(1, "call p(@1);");
        faulty(1, "call p(x@[1]);");
        faulty(1, "call p(x,@);");
        faulty(1, "call p(x @y);");
        Mill.faulty(1, DECLARED + "call p() @}");
        faulty(1, "assert @;");
        faulty(1, "skip @1;");
        faulty(1, "@;");
        faulty(1, "@{}");
        faulty(1, "@int k;");
        faulty(1, "@else {}");
        faulty(1, "@1 += 1;");
        faulty(1, "@delocal 1;");
    }

    private static void syntaxOfEx() {
        fine("x += (((1)));");
        fine("x += -~!-~!1 + - 1;");
        fine("x += size(a) + size(s) + top(s) + empty(s);");
        faulty(1, "x += 1 @2;");
        faulty(1, "x += 1 + @;");
        faulty(1, "x += 1 + @* 2;");
        faulty(1, "x += (1@;");
        faulty(1, "x += (@);");
        faulty(1, "x += 1@);");
        faulty(1, "x += 1@];");
        faulty(1, "x += (1@];");
        faulty(1, "x += a[1@);");
        faulty(1, "x += a[1] @[1];");
        faulty(1, "x += 1@(2);");
        faulty(1, "x += y @~ 1;");
        faulty(1, "x += y @! 1;");
        faulty(1, "x += top @s;");
        faulty(1, "x += top(@1);");
        faulty(1, "x += top(s@+ 1);");
        faulty(1, "x += size(a@[1]);");
        faulty(1, "x += size(@(a));");
        faulty(1, "x += @if;");
        faulty(1, "x += 1 @= 1;");
        faulty(1, "x += y @? 1 : 2;");
    }

    private static void names() {
        Mill.faulty(2, "int x; byte @x; main {}");
        Mill.faulty(2, "int x, @x; main {}");
        Mill.faulty(2, "int x; stack int @x[1]; main {}");
        Mill.faulty(2, "int x[2], @x[2]; main {}");
        Mill.faulty(2, "proc p(){} proc @p(){} main {}");
        Mill.faulty(2, "proc p(int x, int @x){} main {}");
        Mill.fine("int p; proc p(int p){} main { call p(p); }");
        Mill.fine("int x; proc p(int x){ x += 1; } proc q(int x){ x -= 1; } main { x += 1; }");
        Mill.faulty(2, "int x; proc p(){ @x += 1; } main {}");
        Mill.faulty(2, "proc p(int x){} proc q(){ @x += 1; } main {}");
        Mill.faulty(2, "proc p(int x){} main { @x += 1; }");
        faulty(2, "@z += 1;");
        faulty(2, "x += @z;");
        faulty(2, "x += a[@z];");
        faulty(2, "a[@z] += 1;");
        faulty(2, "x <=> @z;");
        faulty(2, "push @z, s;");
        faulty(2, "push x, @z;");
        faulty(2, "x += top(@z);");
        faulty(2, "x += size(@z);");
        faulty(2, "x += empty(@z);");
        faulty(2, "call p(@z);");
        faulty(2, "@z[;");
    }

    private static void localNames() {
        faulty(2, "local int @x = 1 {} delocal 1;");
        faulty(2, "local int k = @k {} delocal 1;");
        faulty(2, "local int k = 1 {} delocal @k;");
        faulty(2, "local int k = 1 {} delocal 1; @k += 1;");
        faulty(2, "local int k = 1 { local int @k = 1 {} delocal 1; } delocal 1;");
        fine("local int k = 1 {} delocal 1; local byte k = 1 {} delocal 1;");
        fine("local int k = 1 { local int l = k { l += k; } delocal k + k; } delocal 1;");
        Mill.fine("int x; proc p() { local int x = 1 {} delocal 1; } main {}");
        Mill.faulty(2, "proc p(int x) { local int @x = 1 {} delocal 1; } main {}");
        Mill.fine("proc k() { local int k = 1 { call k(); } delocal 1; } main {}");
    }

    private static void ranges() {
        Mill.fine("int x[1]; int y[200]; stack int s[1]; stack int t[40]; main {}");
        Mill.faulty(3, "int x[@0]; main {}");
        Mill.faulty(3, "int x[@201]; main {}");
        Mill.faulty(3, "int x[@999999999999999999]; main {}");
        Mill.fine("int x[0200]; main {}");
        Mill.faulty(3, "stack int s[@0]; main {}");
        Mill.faulty(3, "stack int s[@41]; main {}");
        faulty(3, "x *= @0;");
        faulty(3, "x *= @2;");
        faulty(3, "x /= @4;");
        faulty(3, "x /= @999999999999999998;");
        fine("x *= 1; x /= 999999999999999999; x *= 007;");
    }

    private static String declarations(int n) {
        StringBuilder s = new StringBuilder();
        for (int i = 0; i < n; i++) {
            s.append("int n").append(i).append(';');
        }
        return s.toString();
    }

    private static void roomOfNames() {
        Mill.fine(declarations(40) + "main{}");
        Mill.faulty(4, declarations(40) + "int @z;main{}");
        Mill.fine(declarations(40) + "main{" + nestedLocals(12, "n0+=n39;n39+=n1;k11+=k0+n20;k0+=k11;") + "}");
        Mill.faulty(2, declarations(39) + "main{" + nestedLocals(12, "n0+=@n39;") + "}");
        Mill.faulty(4, declarations(40) + "stack int @z[0];main{}");
        Mill.faulty(2, declarations(40) + "int @n0;main{}");
        Mill.fine("int a[200],b[200],c[200],d[200],e[199],x; stack int s[1]; main{}");
        Mill.faulty(4, "int a[200],b[200],c[200],d[200],e[199],x; stack int s[@2]; main{}");
        Mill.faulty(4, "int a[200],b[200],c[200],d[200],e[200],x,y[@1]; main{}");
        Mill.faulty(3, "int a[200],b[200],c[200],d[200],e[200],x,y[@201]; main{}");
        StringBuilder procedures = new StringBuilder();
        for (int i = 0; i < 16; i++) {
            procedures.append("proc p").append(i).append("(){}");
        }
        Mill.fine(procedures + "main{}");
        Mill.faulty(4, procedures + "proc @q(){}main{}");
        Mill.faulty(2, procedures + "proc @p3(){}main{}");
        Mill.fine("proc p(int a,int b,int c,int d,int e,int f){}main{}");
        Mill.faulty(4, "proc p(int a,int b,int c,int d,int e,int f,int @g){}main{}");
        Mill.faulty(4, "proc p(int a,int b,int c,int d,int e,int f,stack int @g){}main{}");
        Mill.faulty(2, "proc p(int a,int b,int c,int d,int e,int f,int @f){}main{}");
    }

    private static String nestedLocals(int n, String inner) {
        String text = inner;
        for (int i = n - 1; i >= 0; i--) {
            text = "local int k" + i + "=0{" + text + "}delocal 0;";
        }
        return text;
    }

    private static void roomOfBlocks() {
        Mill.fine("main{" + nestedLocals(12, "") + "}");
        Mill.faulty(4, "main{" + nestedLocals(12, "local int @z=0{}delocal 0;") + "}");
        Mill.faulty(2, "main{" + nestedLocals(12, "local int @k5=0{}delocal 0;") + "}");
        Mill.fine("main{" + nestedLocals(11, "local int y=0{}delocal 0;local int z=0{}delocal 0;") + "}");
        Mill.fine("main{" + times(15, "if 1{") + times(15, "}fi 1;") + "}");
        Mill.faulty(4, "main{" + times(15, "if 1{") + "if 1@{" + times(16, "}fi 1;") + "}");
        Mill.faulty(4, "main{" + times(15, "if 1{") + "from 1 loop@{}until 1;" + times(15, "}fi 1;") + "}");
        Mill.fine("main{" + times(14, "if 1{") + "if 1{}else{}fi 1;from 1 do{}loop{}until 1;" + times(14, "}fi 1;") + "}");
    }

    private static void roomOfOpenThings() {
        fine("x += " + times(40, "(") + "1" + times(40, ")") + ";");
        faulty(4, "x += " + times(40, "(") + "@(1" + times(41, ")") + ";");
        fine("x += " + times(39, "(") + "top(s)" + times(39, ")") + ";");
        faulty(4, "x += " + times(40, "(") + "top@(s)" + times(40, ")") + ";");
        faulty(4, "x += " + times(40, "(") + "a@[0]" + times(40, ")") + ";");
        faulty(4, "x += " + times(40, "(") + "@-1" + times(40, ")") + ";");
        fine("a[" + times(39, "(") + "1" + times(39, ")") + "] += 1;");
        faulty(4, "a[" + times(39, "(") + "@(1" + times(40, ")") + "] += 1;");
        fine("a[" + times(39, "(") + "1" + times(39, ")") + "] += " + times(40, "(") + "1" + times(40, ")") + ";");
        // - ~ ! ahead are open up to the end of what they stand over.
        fine("x += " + times(37, "(") + "-1 + -(1) + ~a[0] + !(-1)" + times(37, ")") + ";");
        faulty(4, "x += " + times(37, "(") + "-1 + -(1) + ~a[0] + !(-@-1)" + times(37, ")") + ";");
        fine("if " + times(40, "(") + "1" + times(40, ")") + " { x += " + times(40, "(") + "1" + times(40, ")") + "; } fi 1;");
    }

    /** The text of a program up to its 1499th TOKEN, of which only the last } is missing. */
    private static String allButOneToken() {
        StringBuilder s = new StringBuilder("int x; main { assert -x;");
        int used = 9;
        for (; used + 30 <= 1499; used += 30) {
            s.append("x+=1").append("+1".repeat(13)).append(';');
        }
        for (; used + 4 <= 1499; used += 4) {
            s.append("x+=1;");
        }
        Mill.due("tokens", used, 1499);
        return s.toString();
    }

    private static void roomOfTokens() {
        String text = allButOneToken();
        Mill.fine(text + "}");
        Mill.fine(text + "} # 1500");
        Mill.faulty(1, text + "}@}");
        Mill.faulty(1, text + "}@$");
        Mill.faulty(4, text + "skip@;}");
        Mill.faulty(2, text + "push @q,q;}");
        Mill.faulty(4, text + "push @x,x;}");
        Mill.faulty(1, text + "push @1,x;}");
        // ROOM comes ahead of SORT at the same TOKEN.
        Mill.faulty(4, text + "push @x[1],x;}");
    }

    private static void roomOfInstructions() {
        Mill.fine("main{" + times(598, "skip;") + "}");
        Mill.faulty(4, "main{" + times(598, "skip;") + "skip;@}");
        Mill.faulty(4, "main{" + times(599, "skip;") + "@skip;}");
        Mill.faulty(1, "main{" + times(599, "skip;") + "@;}");
        Mill.fine("main{" + times(595, "skip;") + "if 1{}fi 1;}");
        Mill.faulty(4, "main{" + times(597, "skip;") + "if 1{}@fi 1;}");
        Mill.faulty(4, "main{" + times(598, "skip;") + "if 1{}@else{}fi 1;}");
        Mill.faulty(4, "main{" + times(597, "skip;") + "if 1{}else{}@fi 1;}");
        Mill.fine("main{" + times(595, "skip;") + "from 1 until 1;}");
        Mill.faulty(4, "main{" + times(597, "skip;") + "from 1 loop{}@until 1;}");
        Mill.faulty(4, "main{" + times(597, "skip;") + "from 1 loop{skip;@skip;}until 1;}");
        Mill.faulty(4, "int x;main{" + times(599, "skip;") + "x@+=1;}");
        Mill.faulty(4, "int x;main{" + times(599, "skip;") + "x@<=>x;}");
        Mill.faulty(4, "int x;main{" + times(599, "skip;") + "@push x,x;}");
        Mill.faulty(4, "main{" + times(598, "skip;") + "local int k=1{}@delocal 1;}");
        Mill.faulty(4, "main{" + times(599, "skip;") + "@call p();}");
        Mill.faulty(4, "proc p(){" + times(598, "skip;") + "}@main{}");
        Mill.faulty(4, "proc p(){" + times(597, "skip;") + "}main{@}");
        Mill.faulty(4, "proc p(){" + times(598, "skip;") + "}@proc q(){}main{}");
    }

    private static void sorts() {
        faulty(5, "@s += 1;");
        faulty(5, "@s[1] += 1;");
        faulty(5, "@x[1] += 1;");
        faulty(5, "@a += 1;");
        faulty(5, "@a = 1;");
        faulty(5, "@a $");
        faulty(5, "x += @s;");
        faulty(5, "x += @y[1];");
        faulty(5, "x += @a;");
        faulty(5, "x += @a + b;");
        faulty(5, "x += @a]");
        faulty(5, "x <=> @s;");
        faulty(5, "x <=> @a;");
        faulty(5, "x <=> @y[1];");
        faulty(5, "x <=> @c;");
        faulty(5, "x <=> @r[1];");
        faulty(5, "a[1] <=> @c;");
        fine("c <=> r[1];");
        faulty(5, "push @s, s;");
        faulty(5, "push x, @y;");
        faulty(5, "push x, @a;");
        faulty(5, "push x, @t;");
        faulty(5, "pop c, @s;");
        fine("push c, t; pop r[0], t;");
        faulty(5, "x += top(@y);");
        faulty(5, "x += top(@a);");
        faulty(5, "x += empty(@y);");
        faulty(5, "x += empty(@a);");
        faulty(5, "x += size(@y);");
        fine("x += size(a) + size(s);");
        fine("local int k = 1 { x <=> k; push k, s; } delocal 1;");
        faulty(5, "local byte k = 1 { x <=> @k; } delocal 1;");
        faulty(5, "local int k = 1 { @k[0] += 1; } delocal 1;");
    }

    private static void twice() {
        faulty(6, "x += @x;");
        faulty(6, "x += 1 + a[@x];");
        faulty(6, "x -= y * (2 - @x);");
        faulty(6, "a[@a[0]] += 1;");
        faulty(6, "a[1] += @a[2];");
        faulty(6, "a[1] += size(@a);");
        faulty(6, "a[size(@a)] += 1;");
        faulty(6, "a[@a[0]] *= 3;");
        fine("x += y; a[x] += x; a[b[1]] += 1;");
        fine("x <=> x; a[0] <=> a[1]; a[x] <=> a[y];");
        faulty(6, "x <=> a[@x];");
        faulty(6, "a[x] <=> @x;");
        faulty(6, "a[@a[1]] <=> x;");
        faulty(6, "x <=> a[@a[1]];");
        faulty(6, "a[b[0]] <=> @b[0];");
        faulty(6, "a[0] <=> b[@a[0]];");
        faulty(6, "a[0] <=> b[size(@a)];");
        faulty(6, "a[0] <=> a[size(@a)];");
        faulty(6, "push a[@a[0]], s;");
        faulty(6, "push a[size(s)], @s;");
        faulty(6, "pop a[top(s)], @s;");
        faulty(6, "pop a[empty(s)], @s;");
        fine("push a[top(t)], s; pop a[size(t) + x], s;");
        Mill.fine("int x, y; int a[9]; main { a[1 + 2] <=> x; a[(1 + 2) * -3] <=> y; }");
        // Whose place has no [ ] ahead, or another one's.
        fine("a[x] <=> y; x <=> y;");
        fine("push r[top(s)], t;");
        Mill.faulty(6, "proc q(int x){ call p(x, @x); } proc p(int x, int y){} main {}");
        Mill.faulty(6, "proc p(int x, int y){} proc q(int x){ call p(x, @x); } main {}");
    }

    private static void arguments() {
        String p = "int x, y; byte c; int a[2]; stack int s[2]; stack byte t[2];"
                + "proc p(int x, int a[], stack int s){} proc n(){} main { ";
        Mill.fine(p + "call p(x, a, s); uncall p(y, a, s); call n(); }");
        Mill.faulty(5, p + "call p(@c, a, s); }");
        Mill.faulty(5, p + "call p(@a, a, s); }");
        Mill.faulty(5, p + "call p(x, @y, s); }");
        Mill.faulty(5, p + "uncall p(x, a, @t); }");
        Mill.faulty(5, p + "call p(x, a, @a); }");
        Mill.faulty(6, p + "call p(x, a, s, @s); }");
        Mill.faulty(7, p + "call p(x, a, s, @y); }");
        Mill.faulty(7, p + "call p(x, a@); }");
        Mill.faulty(7, p + "call p(@); }");
        Mill.faulty(7, p + "call n(@x); }");
        Mill.faulty(2, p + "call n(@z); }");
        Mill.faulty(1, p + "call p(x, a@; }");
        Mill.faulty(7, "proc p(int x){ call p(@); } main {}");
        Mill.fine("proc p(int x){ call p(x); } main {}");
        Mill.faulty(5, "proc p(int x, byte b){ call p(@b, x); } main {}");
    }

    private static void argumentsAhead() {
        String q = "} proc q(int a, byte b){} main {}";
        Mill.fine("proc p(int a, byte b){ call q(a, b); uncall q(a, b);" + q);
        Mill.faulty(5, "proc p(int a, byte b){ call q(@b, a);" + q);
        Mill.faulty(5, "proc p(int a, byte b, int c){ call q(a, @c, b);" + q);
        Mill.faulty(7, "proc p(int a, byte b, int c){ call q(a, b, @c);" + q);
        Mill.faulty(7, "proc p(int a, byte b){ call q(a@);" + q);
        Mill.faulty(7, "proc p(int a, byte b){ call q(@);" + q);
        Mill.faulty(2, "proc p(int a, byte b){ call @r(a, b);" + q);
        Mill.faulty(2, "proc p(int a, byte b){ call @r(b);" + q);
        // All else comes first, also what stands behind.
        Mill.faulty(1, "proc p(int a, byte b){ call r(b);" + q + "@}");
        Mill.faulty(6, "proc p(int a, byte b){ call q(b, @b);" + q);
        Mill.faulty(2, "proc p(int a, byte b){ call q(b, @z);" + q);
        Mill.faulty(2, "proc p(int a, byte b){ call q(b, a);} proc q(int a, byte b){} main { @z += 1; }");
        Mill.faulty(5, "proc p(int a, byte b){ call q(@b, a); call r(); call q(a);" + q);
        Mill.faulty(2, "proc p(int a, byte b){ call q(a, b); call @r(b, a); call q(a);" + q);
        Mill.faulty(7, "proc p(int a, byte b){ from 1 loop { call q(a@); } until 1; call r();" + q);
        Mill.faulty(2, "main { call @p(); }");
        Mill.faulty(1, "main { call p() @}");
    }

    private static String chain(int operators) {
        return "1" + times(operators, "+1");
    }

    private static void heights() {
        fine("x += " + chain(15) + ";");
        faulty(8, "x += " + chain(15) + "@+1;");
        faulty(8, "x += " + chain(15) + "@+1 $");
        faulty(8, "x += " + chain(15) + "@+1");
        faulty(8, "x += " + chain(15) + "@+1+1+1;");
        faulty(1, "x += " + chain(15) + "+@;");
        faulty(8, "x += y@*(" + chain(15) + ")+1;");
        fine("x += y*(" + chain(14) + ");");
        fine("x += " + times(15, "-") + "1;");
        faulty(8, "x += @-" + times(15, "-") + "1;");
        faulty(8, "x += " + times(4, "-") + "@-" + times(15, "-") + "1;");
        faulty(8, "x += @~" + times(15, "-") + "y $");
        fine("x += (" + chain(15) + ");");
        fine("x += a[" + chain(14) + "];");
        faulty(8, "x += @a[" + chain(15) + "];");
        faulty(8, "x += @a[" + chain(15) + "] $");
        faulty(1, "x += a[" + chain(15) + "@$");
        faulty(8, "x += b[" + chain(15) + "@+1];");
        // A statement's own place is no PART of an ex.
        fine("a[" + chain(15) + "] += 1;");
        faulty(8, "a[" + chain(15) + "@+1] += 1;");
        fine("x += " + times(14, "a[") + "y" + times(14, "]") + ";");
        fine("x += " + times(15, "a[") + "y" + times(15, "]") + ";");
        faulty(8, "x += @a[" + times(15, "a[") + "y" + times(16, "]") + ";");
        fine("x += " + times(14, "-") + " top(s);");
        fine("x += " + times(15, "-") + " size(a);");
        faulty(8, "x += @-" + times(15, "-") + " size(a);");
        // Operators that bind more loosely stand over those that bind more tightly.
        fine("x += 1||1&&1|1^1&1==1<1<<1+1*1;");
        faulty(8, "x += 1@||(1&&(1|(1^(1&(1==(1<(1<<(1+(1*(1+(1+(1+(1+(1+(1+1)))))))))))))));");
    }

    private static void order() {
        // Of one TOKEN the least KIND, and what comes first of several TOKENS.
        faulty(2, "x += @z[1] + z;");
        faulty(5, "x += @x[1];");
        faulty(5, "a[0] += @a;");
        faulty(6, "x += @x + z;");
        faulty(2, "x += @z + x;");
        faulty(5, "x += @a $");
        faulty(3, "x *= @2 $");
        faulty(1, "x *= @$");
        Mill.faulty(3, "int x[@0 $");
        Mill.faulty(2, "int x; int @x $");
    }

    private static void latestLoad() {
        Mill m = new Mill();
        Mill.due("load()", m.load("main { x += 1; }"), JanusMill.NONE);
        Mill.due("fault(0)", m.mill.fault(0), 2);
        Mill.due("fault(1)", m.mill.fault(1), 7);
        Mill.due("fault(-1)", m.mill.fault(-1), JanusMill.NONE);
        Mill.due("fault(2)", m.mill.fault(2), JanusMill.NONE);
        Mill.due("load()", m.load("main { }"), 2);
        Mill.due("fault(0)", m.mill.fault(0), 0);
        Mill.due("fault(1)", m.mill.fault(1), JanusMill.NONE);
        Mill.due("load() of an empty tape", m.mill.load(), JanusMill.NONE);
        Mill.due("fault(0)", m.mill.fault(0), 1);
        Mill.due("fault(1)", m.mill.fault(1), 0);
    }

    /** What a wrong text had open or has used up does not count for the next one. */
    private static void loadBehindFaults() {
        Mill m = new Mill();
        String full = "main{" + nestedLocals(12, "") + "}";
        Mill.due("load() cut within locals", m.load(full.substring(0, full.indexOf("}"))), JanusMill.NONE);
        Mill.due("load() of twelve locals", m.load(full), 26);
        String blocks = "main{" + times(15, "if 1{") + times(15, "}fi 1;") + "}";
        Mill.due("load() cut within blocks", m.load(blocks.substring(0, blocks.indexOf("}"))), JanusMill.NONE);
        Mill.due("load() of sixteen blocks", m.load(blocks), 47);
        String open = "int x;main{x+=" + times(40, "(") + "1" + times(40, ")") + ";}";
        Mill.due("load() cut within brackets", m.load(open.substring(0, open.indexOf("1"))), JanusMill.NONE);
        Mill.due("load() of forty brackets", m.load(open), 3);
        String procedures = "proc p(int a,int b,int c,int d,int e,int f){" + times(60, "call p(f,e,d,c,b,a);") + "}main{}";
        for (int i = 0; i < 12; i++) {
            Mill.due("load() of 360 arguments", m.load(procedures), 64);
            m.mill.write(false);
            Mill.due("last call", m.out().contains("call p ( f , e , d , c , b , a ) ;\n}\nmain"));
        }
        String names = declarations(40) + "main{}";
        Mill.due("load() of forty names", m.load(names.replace("main{}", "main{")), JanusMill.NONE);
        Mill.due("load() of forty names", m.load(names), 2);
        String numbers = "int a[200],b[200],c[200],d[200],e[200];main{";
        Mill.due("load() of 1000 numbers", m.load(numbers), JanusMill.NONE);
        Mill.due("load() of 1000 numbers", m.load(numbers + "}"), 2);
    }

    /** Bytes that THE TAPE has lost are not read. */
    private static void cutTape() {
        String text = "int xy;main{xy>>=123;skip;}";
        for (int n = 0; n < text.length(); n++) {
            Mill m = new Mill();
            m.tape(text);
            m.mill.end(n);
            Mill.due("load() of the first " + n, m.mill.load(), JanusMill.NONE);
            Mill cut = new Mill();
            cut.load(text.substring(0, n));
            Mill.due("kind in the first " + n, m.mill.fault(0), cut.mill.fault(0));
            Mill.due("place in the first " + n, m.mill.fault(1), cut.mill.fault(1));
        }
        Mill.faulty(1, "int xy;main{xy@>");
        // All 4000 bytes, with the last token at the very end.
        for (String last : new String[] {"main{}", "main{};", "main{}>", "main{}>>", "main{}x", "main{}1", "main{}#"}) {
            Mill m = new Mill();
            m.tape(" ".repeat(4000 - last.length()) + last);
            Mill.due("tape", m.mill.count(0), 4000);
            boolean isFine = last.equals("main{}") || last.endsWith("#");
            Mill.due("load() of 4000 bytes with " + last, m.mill.load(), isFine ? 2 : JanusMill.NONE);
            Mill.due("its fault", m.mill.fault(1), isFine ? JanusMill.NONE : 4000 - last.length() + 6);
        }
        Mill m = new Mill();
        m.tape("#".repeat(4000));
        Mill.due("load() of a remark alone", m.mill.load(), JanusMill.NONE);
        Mill.due("fault(1)", m.mill.fault(1), 4000);
    }
}
