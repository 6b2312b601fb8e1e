/** Every LIMIT (fault 3) of the document: as many as may be, and one more. */
public final class LimitEdges {

    /** Statements in a body; its { and the class's are two of the 24. */
    private static void in(int fault, String s) {
        House.due(fault, "class A { static int n; static boolean b; static int[] r; static Object o; static int f(int x) { return x; } static void g() { " + s + " } }");
    }

    /** A field's initial value, in the { of its class. */
    private static void value(int fault, String type, String s) {
        House.due(fault, "class A { int n; boolean b; int[] r; A a; int f(int x) { return x; } A g() { return a; } A() { } A(int x) { } " + type + " v = " + s + "; }");
    }

    private static String times(String s, int n) {
        return House.times(s, n);
    }

    /** "NESTING 24: ( [ { .. till they close". */
    private static void nestingOfBrackets() {
        in(0, times("{ ", 22) + times("} ", 22));
        in(3, times("{ ", 22) + "`{ }" + times("} ", 22));
        value(0, "int", times("(", 23) + "1" + times(")", 23));
        value(3, "int", times("(", 23) + "`(1)" + times(")", 23));
        value(0, "int", times("f(", 23) + "1" + times(")", 23));
        value(3, "int", times("f(", 23) + "f`(1)" + times(")", 23));
        value(0, "int", times("r[", 23) + "1" + times("]", 23));
        value(3, "int", times("r[", 23) + "r`[1]" + times("]", 23));
        value(0, "Object", times("(", 22) + "new int[1]" + times(")", 22));
        value(3, "Object", times("(", 23) + "new int`[1]" + times(")", 23));
        value(0, "Object", times("(", 22) + "new A(1)" + times(")", 22));
        value(3, "Object", times("(", 23) + "new A`(1)" + times(")", 23));
        value(0, "Object", times("(", 22) + "new int[] { 1 }" + times(")", 22));
        value(3, "Object", times("(", 23) + "new int`[] { 1 }" + times(")", 23));
        value(3, "Object", times("(", 22) + "new int[] { `(1) }" + times(")", 22));
        in(0, times("{ ", 21) + "int[] x; " + times("} ", 21));
        in(3, times("{ ", 22) + "int`[] x; " + times("} ", 22));
        in(0, times("{ ", 21) + "int x[]; " + times("} ", 21));
        in(3, times("{ ", 22) + "int x`[]; " + times("} ", 22));
        in(0, times("{ ", 21) + "f(1); " + times("} ", 21));
        in(3, times("{ ", 22) + "f`(1); " + times("} ", 22));
        in(0, times("{ } ", 50) + times("f(1); ", 50) + "n = " + times("(1) + ", 30) + "1;");
    }

    /** "< of types and type arguments". */
    private static void nestingOfTypes() {
        nestedType("class A<T> { ", " a; }", 23);
        nestedType("class A<T> { void f(", " a) { } }", 22);
        nestedType("class A<T> { void f() { ", " a; } }", 22);
        nestedType("class A<T> { void f() { Object o = new ", "(); } }", 22);
        nestedType("class A<T> { <U> void f() { this.<", ">f(); } }", 21);
        nestedType("class A<T> { } class B<T> extends ", " { }", 24);
        nestedType("class A<T> { } class B<T, U extends ", "> { }", 24);
        House.fine("class A<T> { " + times("A<", 22) + "T[]" + times(">", 22) + " a; }");
        House.due(3, "class A<T> { " + times("A<", 23) + "T`[]" + times(">", 23) + " a; }");
    }

    private static void nestedType(String ahead, String behind, int free) {
        House.fine(ahead + times("A<", free) + "T" + times(">", free) + behind);
        House.due(3, ahead + times("A<", free) + "A`<T>" + times(">", free) + behind);
    }

    /** "statements that have others or blocks in them (if, while, do, for, switch, try, a label) from their first token on". */
    private static void nestingOfStatements() {
        String[] heads = {"if ", "while ", "for ", "for ", "switch "};
        String[] tails = {"(b) n++; ", "(b) n++; ", "(;b;) n++; ", "(int x : r) n++; ", "(n) { } "};
        for (int i = 0; i < heads.length; i++) {
            in(0, times("if (b) ", 20) + heads[i] + tails[i]);
            in(3, times("if (b) ", 21) + heads[i] + "`" + tails[i]);
            in(0, times("{ ", 20) + heads[i] + tails[i] + times("} ", 20));
            in(3, times("{ ", 21) + heads[i] + "`" + tails[i] + times("} ", 21));
            in(3, times("{ ", 22) + "`" + heads[i] + tails[i] + times("} ", 22));
        }
        in(0, times("do ", 21) + "; " + times("while (b); ", 21));
        in(3, times("do ", 22) + "; while `(b); " + times("while (b); ", 21));
        in(3, times("do ", 22) + "`do ; while (b); " + times("while (b); ", 22));
        in(0, House.row("a", ": ", "", 22) + ";");
        in(3, House.row("a", ": ", "", 22) + "`z: ;");
        in(0, times("try { ", 11) + times("} finally { } ", 11));
        in(3, times("try { ", 11) + "`try { } finally { } " + times("} finally { } ", 11));
        in(0, times("{ ", 20) + "try { } finally { } " + times("} ", 20));
        in(3, times("{ ", 21) + "try `{ } finally { } " + times("} ", 21));
        in(0, times("{ ", 20) + "try { } catch (Error e) { } " + times("} ", 20));
        in(0, times("{ ", 22) + "n++; ; int x; return; " + times("} ", 22));
        in(0, times("if (b) n++; ", 60));
        in(0, times("if (b) ; else ", 20) + "if (b) ;");
        in(3, times("if (b) ; else ", 21) + "if `(b) ;");
    }

    /** "what is ahead of an operand (signs, casts), right sides of assignments and of ? and :, as long as they are read". */
    private static void nestingOfOperands() {
        String[] signs = {"- ", "+ ", "~ "};
        for (String s : signs) {
            value(0, "int", times(s, 23) + "1");
            value(3, "int", times(s, 23) + "`" + s + "1");
        }
        value(0, "boolean", times("!", 23) + "b");
        value(3, "boolean", times("!", 23) + "`!b");
        value(3, "int", times("- ", 23) + "`++n");
        value(0, "int", times("- ", 22) + "++n");
        value(0, "int", times("(int) ", 23) + "1");
        value(3, "int", times("(int) ", 23) + "`(int) 1");
        value(0, "Object", times("(Object) ", 23) + "a");
        value(3, "Object", times("(Object) ", 23) + "`(Object) a");
        value(3, "int", times("(int) ", 23) + "`-1");
        value(3, "int", times("- ", 23) + "`(1)");
        value(0, "int", times("-1 + ", 30) + "-1");
        value(0, "int", times("n = ", 23) + "1");
        value(3, "int", times("n = ", 23) + "n `= 1");
        value(0, "int", times("n += ", 23) + "1");
        value(3, "int", times("n += ", 23) + "n `+= 1");
        value(0, "int", times("b ? ", 23) + "1" + times(" : 2", 23));
        value(3, "int", times("b ? ", 23) + "b `? 1 : 2" + times(" : 2", 23));
        value(0, "int", times("b ? 1 : ", 23) + "2");
        value(3, "int", times("b ? 1 : ", 23) + "b `? 1 : 2");
        value(0, "int", times("b ? ", 22) + "b ? 1 : 2" + times(" : 2", 22));
        value(3, "int", times("b ? 1 : ", 23) + "`(2)");
        in(0, times("n = ", 22) + "1;");
        in(3, times("n = ", 22) + "n `= 1;");
        in(0, "int i = " + times("n = ", 22) + "1;");
        in(0, times("n = 1; ", 60));
    }

    /** An expression of this depth that is an int. */
    private static String deep(int depth) {
        return "(1" + times(" + 1", depth - 1) + ")";
    }

    /** "DEPTH 40 of an expression: 1 of one without parts, else 1 more than its deepest part's .. (at its PLACE)". */
    private static void depth() {
        value(0, "int", "1" + times(" + 1", 39));
        value(3, "int", "1" + times(" + 1", 39) + " `+ 1");
        value(3, "int", "1" + times(" + 1", 39) + " `+ 1 + 1 + 1");
        value(0, "int", "1" + times(" * 1", 38) + " - 1");
        value(3, "int", "1" + times(" * 1", 39) + " `- 1");
        value(0, "A", "a" + times(".a", 39));
        value(3, "A", "a" + times(".a", 39) + ".`a");
        value(0, "A", "g()" + times(".g()", 39));
        value(3, "A", "g()" + times(".g()", 39) + ".`g()");
        value(0, "int", "1 + " + deep(39));
        value(3, "int", "1 `+ " + deep(40));
        value(3, "int", deep(40) + " `+ 1");
        value(0, "int", "-" + deep(39));
        value(3, "int", "`-" + deep(40));
        value(0, "int", "(int) " + deep(39));
        value(3, "int", "`(int) " + deep(40));
        value(0, "int", "f(" + deep(39) + ")");
        value(3, "int", "`f(" + deep(40) + ")");
        value(0, "int", "a.f(" + deep(39) + ")");
        value(3, "int", "a.`f(" + deep(40) + ")");
        value(0, "A", "new A(" + deep(39) + ")");
        value(3, "A", "`new A(" + deep(40) + ")");
        value(0, "int[]", "new int[" + deep(39) + "]");
        value(3, "int[]", "`new int[" + deep(40) + "]");
        value(0, "int[]", "{ " + deep(39) + " }");
        value(3, "int[]", "`{ " + deep(40) + " }");
        value(0, "int[]", "new int[] { " + deep(38) + " }");
        value(3, "int[]", "`new int[] { " + deep(39) + " }");
        value(3, "int[]", "new int[] `{ " + deep(40) + " }");
        value(0, "int", "r[" + deep(39) + "]");
        value(3, "int", "r`[" + deep(40) + "]");
        value(0, "int", "n = " + deep(39));
        value(3, "int", "n `= " + deep(40));
        value(0, "int", "b ? " + deep(39) + " : 1");
        value(3, "int", "b `? " + deep(40) + " : 1");
        value(3, "int", "b `? 1 : " + deep(40));
        value(0, "int", deep(38) + " > 0 ? 1 : 1");
        value(3, "int", deep(39) + " > 0 `? 1 : 1");
        value(0, "boolean", "b" + times(" == b", 39));
        value(3, "boolean", "b" + times(" == b", 39) + " `== b");
        value(0, "boolean", "b" + times(" && b", 39));
        value(3, "boolean", "b" + times(" && b", 39) + " `&& b");
        value(0, "int", "r[" + deep(38) + "]++");
        value(3, "int", "r[" + deep(39) + "]`++");
        value(0, "boolean", "new A(" + deep(38) + ") instanceof A");
        value(3, "boolean", "new A(" + deep(39) + ") `instanceof A");
        value(0, "int", "new A(" + deep(38) + ").n");
        value(3, "int", "new A(" + deep(39) + ").`n");
        in(0, "n = " + deep(39) + ";");
        in(3, "n `= " + deep(40) + ";");
        in(0, "return; } A() { this(" + deep(40) + "); } A(int x) {");
        in(3, "return; } A() { this(1" + times(" + 1", 39) + " `+ 1); } A(int x) {");
    }

    /** "(DEPTH when an expression is read to its end)". */
    private static void depthInReading() {
        value(3, "int", "1" + times(" + 1", 39) + " `+ 1 )");
        value(3, "int", "1" + times(" + 1", 39) + " `+ 1 \"");
        value(3, "int", "1" + times(" + 1", 39) + " `+ 1 <> 1");
        value(1, "int", "1" + times(" + 1", 39) + " + `)");
        value(1, "int", "1" + times(" + 1", 39) + " + 1 * `)");
        value(3, "int", "1" + times(" + 1", 39) + " `+ 1 * 1");
        value(1, "int", "f(" + deep(40) + " `;");
        value(1, "int", "f(" + deep(40) + ", `)");
        value(2, "int", "f(" + deep(40) + ", `?)");
        value(3, "int", "`f(" + deep(40) + ") )");
        value(1, "int", "-" + deep(40) + ". `1");
        value(3, "int", "`-" + deep(40) + " .1");
        value(1, "int", "r[" + deep(40) + " `)");
    }

    /** "24 kinds (at the name); 120 fields, methods and constructors together (at the name)". */
    private static void kindsAndMembers() {
        House.fine(House.row("class K", " { } ", "", 23));
        House.fine(House.row("class K", " { } ", "", 24));
        House.due(3, House.row("class K", " { } ", "", 24) + "class `L { }");
        House.due(3, House.row("interface K", " { } ", "", 24) + "abstract interface `L { }");
        House.due(3, House.row("class K", " { } ", "", 24) + "class `K0 { }");
        House.fine("class A { int " + House.row("a", "", ",", 119) + "; }");
        House.fine("class A { int " + House.row("a", "", ",", 120) + "; }");
        House.due(3, "class A { int " + House.row("a", "", ",", 120) + ",`z; }");
        House.due(3, "class A { int " + House.row("a", "", ",", 120) + "; void `z() { } }");
        House.due(3, "class A { int " + House.row("a", "", ",", 120) + "; `A() { } }");
        House.due(3, "class A { int " + House.row("a", "", ",", 120) + "; } class B { int `z; }");
        House.due(3, "class A { int " + House.row("a", "", ",", 60) + "; } interface B { " + House.row("int m", "();", "", 60) + " <T> void `z(); }");
        House.fine("class A { int " + House.row("a", "", ",", 60) + "; } interface B { " + House.row("int m", "();", "", 60) + " }");
        House.fine("class A { " + House.row("int a", ";", "", 118) + " A() { } void f() { } }");
        House.due(3, "class A { " + House.row("int a", ";", "", 118) + " A() { } void f() { } A `g; }");
        House.fine("class A { " + times(";", 200) + House.row("int a", ";", "", 120) + " }");
    }

    /** "4 vars; 8 formals, args; 6 refs in a list, types in < >". */
    private static void lists() {
        House.fine("class A<B, C, D> { } class E<F, G, H, I> { }");
        House.due(3, "class A<B, C, D, E, `F> { }");
        House.fine("class A<B, C, D, E> { <F, G, H, I> void f() { } }");
        House.due(3, "class A<B, C, D, E> { <F, G, H, I, `J> void f() { } }");
        House.due(3, "interface A<B extends Object, C extends B, D, E extends B, `F> { }");
        House.fine("class A { void f(" + House.row("int a", "", ", ", 7) + ") { } void g(" + House.row("int a", "", ", ", 8) + ") { } }");
        House.due(3, "class A { void f(" + House.row("int a", "", ", ", 8) + ", `int z) { } }");
        House.due(3, "class A { void f(" + House.row("int a", "", ", ", 8) + ", `final A z) { } }");
        House.due(3, "class A { A(" + House.row("int a", "", ", ", 8) + ", `int... z) { } }");
        House.fine("class A { A(" + House.row("int a", "", ", ", 7) + ", int... z) { } }");
        House.due(3, "interface A { void f(" + House.row("int a", "", ", ", 8) + ", `A z); }");
        String eight = "1, 2, 3, 4, 5, 6, 7, 8";
        String head = "class A { A(int... x) { } static int f(int... x) { return 1; } static void g() { ";
        House.fine(head + "f(" + eight + "); new A(" + eight + "); A.f(" + eight + "); } }");
        House.due(3, head + "f(" + eight + ", `9); } }");
        House.due(3, head + "A.f(" + eight + ", `-9); } }");
        House.due(3, head + "new A(" + eight + ", `(9)); } }");
        House.fine(head + "} A() { this(" + eight + "); } }");
        House.due(3, head + "} A() { this(" + eight + ", `9); } }");
        House.due(3, head + "} A() { super(" + eight + ", `9); } }");
        House.fine(House.row("interface I", " { } ", "", 6) + "class A implements " + House.row("I", "", ", ", 6) + " { }");
        House.due(3, House.row("interface I", " { } ", "", 6) + "class A implements " + House.row("I", "", ", ", 6) + ", `I0 { }");
        House.fine(House.row("interface I", " { } ", "", 6) + "interface A extends " + House.row("I", "", ", ", 6) + " { }");
        House.due(3, House.row("interface I", " { } ", "", 6) + "interface A extends " + House.row("I", "", ", ", 6) + ", `I0 { }");
        House.fine("class A { void f() throws Error, Error, Error, Error, Error, Error { } }");
        House.due(3, "class A { void f() throws Error, Error, Error, Error, Error, Error, `Error { } }");
        House.due(3, "class A { A() throws Error, Error, Error, Error, Error, Error, `Error { } }");
        House.due(31, "class A { `A<A, A, A, A, A, A> a; }");
        House.due(3, "class A { A<A, A, A, A, A, A, `A> a; }");
        House.due(3, "class A { A<A, A, A, A, A, A, `int[]> a; }");
        in(31, "`A<A, A, A, A, A, A> a;");
        in(3, "A<A, A, A, A, A, A, `A> a;");
        in(31, "Object x = (`A<A, A, A, A, A, A>) null;");
        in(3, "Object x = (A<A, A, A, A, A, A, `A>) null;");
        in(0, "A.<A, A, A, A, A, A>f(1);");
        in(3, "A.<A, A, A, A, A, A, `A>f(1);");
        in(3, "o = new A<A, A, A, A, A, A, `A>();");
    }

    /** "4 [ ] of a type (... is one), a name's and those in new too". */
    private static void brackets() {
        House.fine("class A { int[][][] a; int[][][][] b; int c[][][][], d; int[] e[][][], f[], g[][]; }");
        House.due(3, "class A { int[][][][]`[] a; }");
        House.due(3, "class A { int a[][][][]`[]; }");
        House.due(3, "class A { int[][] a[][]`[]; }");
        House.due(3, "class A { int[][] a[][], b[][]`[]; }");
        House.fine("class A { void f(int[][][]... a) { } void g(int[][] a[][]) { } int[][][][] h() { return null; } }");
        House.due(3, "class A { void f(int[][][][]`... a) { } }");
        House.due(3, "class A { void f(int[][][] a[]`[]) { } }");
        House.due(3, "class A { int[][][][]`[] f() { } }");
        in(0, "int[][][] a[] = null; o = new int[1][1][1][1]; o = new int[1][][][]; o = new int[][][][] { }; o = (int[][][][]) o; b = o instanceof A[][][][];");
        in(3, "int[][][][]`[] a;");
        in(3, "A[][][][]`[] a;");
        in(3, "int[][][] a[]`[];");
        in(3, "o = new int[1][1][1][1]`[1];");
        in(3, "o = new int[1][][][]`[];");
        in(3, "o = new int[][][][]`[] { };");
        in(3, "o = new A[1][1][1][1]`[1];");
        in(3, "o = (int[][][][]`[]) o;");
        in(3, "o = (A[][][][]`[]) o;");
        in(3, "b = o instanceof A[][][][]`[];");
        in(3, "for (int[][][][]`[] x : null) ;");
        in(3, "for (int[][] x[][]`[] : null) ;");
        in(0, "int[][][][] w = null; for (int[] x[][] : w) ;");
        House.fine("class A<T> { A<int[][][][]> a; }");
        House.due(3, "class A<T> { A<int[][][][]`[]> a; }");
    }

    /** "40 inits in one { }". */
    private static void inits() {
        in(0, "int[] a = { " + times("1,", 39) + " };");
        in(0, "int[] a = { " + times("1,", 39) + "1 };");
        in(0, "int[] a = { " + times("1,", 40) + " };");
        in(3, "int[] a = { " + times("1,", 40) + "`1 };");
        in(3, "o = new int[] { " + times("1,", 40) + "`n };");
        in(0, "int[][] a = { { " + times("1,", 40) + "}, { " + times("1,", 40) + "} };");
        in(3, "int[][] a = { { 1 }, { " + times("1,", 40) + "`1 } };");
        in(0, "int[][] a = { " + times("{},", 40) + "};");
        in(3, "int[][] a = { " + times("{},", 40) + "`{} };");
    }

    /** "40 locals of a body (formals, locals, names of catch and for, in all its blocks; at the name)". */
    private static void locals() {
        House.fine("class A { void f() { int " + House.row("a", "", ",", 39) + "; } void g() { int " + House.row("a", "", ",", 40) + "; } }");
        House.due(3, "class A { void f() { int " + House.row("a", "", ",", 40) + ",`z; } }");
        House.fine("class A { void f(int x, int y) { int " + House.row("a", "", ",", 38) + "; } }");
        House.due(3, "class A { void f(int x, int y) { int " + House.row("a", "", ",", 38) + ",`z; } }");
        House.due(3, "class A { A(int x) { int " + House.row("a", "", ",", 39) + ",`z; } }");
        House.due(3, "class A { void f() { int " + House.row("a", "", ",", 39) + "; try { } catch (Error e) { } catch (Exception `e) { } } }");
        House.due(3, "class A { void f() { int " + House.row("a", "", ",", 40) + "; for (int `i = 0; ; ) ; } }");
        House.due(3, "class A { void f(int[] r) { int " + House.row("a", "", ",", 39) + "; for (int `i : r) ; } }");
        House.fine("class A { void f(int[] r) { int " + House.row("a", "", ",", 36) + "; for (int i : r) ; for (int i = 0; ; i++) { try { } catch (Error e) { } } } }");
        House.fine("class A { void f() { " + times("{ int x; } ", 40) + "} }");
        House.due(3, "class A { void f() { " + times("{ int x; } ", 40) + "{ int `x; } } }");
        House.due(3, "class A { void f(int " + House.row("a", "", ", int ", 8) + ") { " + times("{ int x; } ", 32) + "A `y; } }");
        House.same("locals", House.taken("class A { void f() { int " + House.row("a", "", ",", 40) + "; } }").method(0, 5), 40);
    }

    /** "20 final fields without an initial value of a kind (at the name)". */
    private static void finals() {
        String set = "A() { " + House.row("a", " = 1; ", "", 19) + "} ";
        House.fine("class A { final int " + House.row("a", "", ",", 19) + "; " + set + "}");
        set = "A() { " + House.row("a", " = 1; ", "", 20) + "} ";
        House.fine("class A { final int " + House.row("a", "", ",", 20) + "; " + set + "}");
        House.due(3, "class A { final int " + House.row("a", "", ",", 20) + ",`z; " + set + "}");
        House.due(3, "class A { final int " + House.row("a", "", ",", 20) + "; final A `z; }");
        House.due(3, "class A { final int " + House.row("a", "", ",", 20) + "; static final A `z[]; }");
        House.fine("class A { final int " + House.row("a", "", ",", 20) + ", y = 1, z = 2; int w, v; static final int u = 3; " + set + "}");
        House.fine("class A { final int " + House.row("a", "", ",", 20) + "; " + set + "} class B { final int a; B() { a = 1; } }");
        House.due(61, "class A { static final int `" + House.row("a", "", ",", 20) + "; }");
        House.due(3, "class A { static final int " + House.row("a", "", ",", 20) + ",`z; }");
        House.due(3, "class A { final int " + House.row("a", "", ",", 20) + ",`z )");
        House.due(1, "class A { final int " + House.row("a", "", ",", 20) + ",z = `)");
    }

    public static void main(String[] args) {
        kindsAndMembers();
        lists();
        brackets();
        inits();
        locals();
        finals();
        nestingOfBrackets();
        nestingOfTypes();
        nestingOfStatements();
        nestingOfOperands();
        depth();
        depthInReading();
        House.end("limits");
    }
}
