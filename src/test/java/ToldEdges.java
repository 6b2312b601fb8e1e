/** Part V of the document and promises 5 to 11: the numbers of what is told, and what is asked outside of them. */
public final class ToldEdges {
    private static final String[] BUILT_IN = {"Object", "Throwable", "Exception", "Error", "RuntimeException", "ArithmeticException",
        "ArrayIndexOutOfBoundsException", "ArrayStoreException", "ClassCastException", "NegativeArraySizeException", "NullPointerException",
        "ExceptionInInitializerError", "NoClassDefFoundError", "Boolean", "Byte", "Short", "Character", "Integer", "Long", "In", "Out"};
    private static final int[] FAR = {Integer.MIN_VALUE, -1000, -2, -1, Integer.MAX_VALUE};

    /** The number of the expression at a place, or -1. */
    private static int at(FrontHouse x, int place) {
        for (int i = 0; i < x.count(3); i++) {
            if (x.expression(i, 0) == place) {
                return i;
            }
        }
        return -1;
    }

    /** A text with ` ahead of an expression: what is told of it. */
    private static void told(String marked, int type, int conversion, int number, int behind) {
        int place = marked.indexOf('`');
        String text = marked.substring(0, place) + marked.substring(place + 1);
        FrontHouse x = House.taken(text);
        int i = at(x, place);
        House.same("type of " + marked, x.expression(i, 1), type);
        House.same("conversion of " + marked, x.expression(i, 2), conversion);
        House.same("number of " + marked, x.expression(i, 4), number);
        House.same("behind [ ] of " + marked, x.expression(i, 5), behind);
    }

    /** "Kinds of TYPES: boolean 0, byte 1, short 2, char 3, int 4, long 5, void 6, null 7, a kind 8, a var 9, an array 10". */
    private static void types() {
        String[] prims = {"boolean", "byte", "short", "char", "int", "long"};
        for (int i = 0; i < prims.length; i++) {
            told("class A { " + prims[i] + " x, y = `x; }", i, 0, 0, i);
            told("class A { " + prims[i] + "[] x, y = `x; }", 10, 0, 1, i);
            told("class A { " + prims[i] + "[][][][] x, y = `x; }", 10, 0, 4, i);
            told("class A { " + prims[i] + "[][] x; " + prims[i] + "[] y = x`[0]; }", 10, 0, 1, i);
        }
        told("class A { void f() { `f(); } }", 6, 0, 0, 6);
        told("class A { Object x = `null; }", 7, 7, 0, 7);
        told("class A { A x = `this; }", 8, 0, 0, 8);
        told("class A { } class B { B x, y = `x; }", 8, 0, 1, 8);
        told("class A { A[] x, y = `x; }", 10, 0, 1, 8);
        for (int i = 0; i < BUILT_IN.length; i++) {
            told("class A { " + BUILT_IN[i] + " x, y = `x; }", 8, 0, -1 - i, 8);
        }
        told("class A<T> { T x, y = `x; }", 9, 0, 0, 9);
        told("class A<T, U> { U x, y = `x; }", 9, 0, 1, 9);
        told("class A<T, U> { <V> void f(V x) { V y = `x; } }", 9, 0, 2, 9);
        told("class A<T, U> { <V> void f(V x) { } } class B<W> { W[] x, y = `x; }", 10, 0, 1, 9);
        told("class A<T, U> { <V> void f(V x) { } } class B<W> { W x, y = `x; }", 9, 0, 3, 9);
        told("class A { int[] x = `{ 1 }; }", 10, 0, 1, 4);
        told("class A { int[][] x = { `{ 1 } }; }", 10, 0, 1, 4);
        told("class A { Object x = new int[][] `{ { 1 } }; }", 10, 0, 2, 4);
    }

    private static void converted(String from, String to, int conversion) {
        FrontHouse x = House.taken("class A { " + from + " x; " + to + " y = x; }");
        House.same(from + " to " + to, x.expression(0, 2), conversion);
    }

    private static void cast(String from, String to, int conversion) {
        String text = "class P { } class Q extends P { } interface I { } class A<T, U extends Integer> { " + from + " x; Object y = (" + to + ") x; }";
        FrontHouse x = House.taken(text);
        House.same("(" + to + ") of " + from, x.expression(1, 2), conversion);
        House.same("unchecked", x.count(5), conversion == 10 ? 1 : 0);
    }

    /** "0 none, 1 widening primitive, 2 narrowing primitive, 3 boxing, 4 boxing and widening, 5 unboxing, 6 unboxing and widening, 7 ..". */
    private static void conversions() {
        String[] prims = {"byte", "short", "char", "int", "long"};
        String[] boxes = {"Byte", "Short", "Character", "Integer", "Long"};
        boolean[][] widens = {{false, true, false, true, true}, {false, false, false, true, true}, {false, false, false, true, true}, {false, false, false, false, true}, {false, false, false, false, false}};
        for (int i = 0; i < prims.length; i++) {
            for (int j = 0; j < prims.length; j++) {
                int code = i == j ? 0 : widens[i][j] ? 1 : i == 0 && j == 2 ? 11 : 2;
                cast(prims[i], prims[j], code);
                if (i == j || widens[i][j]) {
                    converted(prims[i], prims[j], i == j ? 0 : 1);
                    converted(boxes[i], prims[j], i == j ? 5 : 6);
                    cast(boxes[i], prims[j], i == j ? 5 : 6);
                }
            }
            converted(prims[i], boxes[i], 3);
            converted(prims[i], "Object", 4);
            converted(boxes[i], boxes[i], 0);
            converted(boxes[i], "Object", 7);
            cast(prims[i], boxes[i], 3);
            cast(prims[i], "Object", 4);
            cast("Object", prims[i], 12);
            cast("Object", boxes[i], 9);
            cast("T", prims[i], 12);
        }
        converted("boolean", "Boolean", 3);
        converted("Boolean", "boolean", 5);
        converted("int[]", "Object", 7);
        converted("Error[]", "Throwable[]", 7);
        cast("Object", "boolean", 12);
        cast("P", "P", 0);
        cast("Q", "P", 7);
        cast("P", "Q", 9);
        cast("P", "I", 9);
        cast("I", "P", 9);
        cast("Object", "int[]", 9);
        cast("Object[]", "P[]", 9);
        cast("Object", "T", 10);
        cast("Object", "T[]", 10);
        cast("Object", "A<T, U>", 10);
        cast("Integer", "U", 10);
        cast("U", "Integer", 7);
        cast("U", "int", 5);
        cast("U", "long", 6);
        cast("T", "P", 9);
        cast("Object", "A<P, Integer>[]", 10);
        told("class A { byte b = `1; }", 4, 2, 0, 4);
        told("class A { byte a; char b = (char) `a; }", 1, 11, 0, 1);
        told("class A { char b = `(short) 1; }", 2, 2, 0, 2);
        told("class A { Byte b = `1; }", 4, 8, 0, 4);
        told("class A { Character b = `97; }", 4, 8, 0, 4);
        told("class A { Object b = `1; }", 4, 4, 0, 4);
        told("class A { Integer b = `null; }", 7, 7, 0, 7);
    }

    /** "of an operand what promotion makes of it", "What stands for itself, a switch's, a throw's, a row of for each, a target, an operand of ++ ..". */
    private static void roles() {
        String head = "class A { byte b; int i; long l; Byte B; Integer I; Object o; boolean z; Boolean Z; int[] a; Integer[] c; A t; void f(long x) { } void m() { ";
        told(head + "i = `b + b; } }", 1, 1, 0, 1);
        told(head + "l = `i + l; } }", 4, 1, 0, 4);
        told(head + "i = `I + i; } }", 8, 5, -18, 8);
        told(head + "l = `I + l; } }", 8, 6, -18, 8);
        told(head + "i = `B + i; } }", 8, 6, -15, 8);
        told(head + "i = -`B; } }", 8, 6, -15, 8);
        told(head + "i = i << `l; } }", 5, 0, 0, 5);
        told(head + "i = i << `b; } }", 1, 1, 0, 1);
        told(head + "l = l << `b; } }", 1, 1, 0, 1);
        told(head + "z = `i < l; } }", 4, 1, 0, 4);
        told(head + "z = `I == i; } }", 8, 5, -18, 8);
        told(head + "z = `I == o; } }", 8, 0, -18, 8);
        told(head + "z = o == `null; } }", 7, 0, 0, 7);
        told(head + "z = !`Z; } }", 8, 5, -14, 8);
        told(head + "z = `Z && z; } }", 8, 5, -14, 8);
        told(head + "if (`Z) ; } }", 8, 5, -14, 8);
        told(head + "i = a[`b]; } }", 1, 1, 0, 1);
        told(head + "i = a[`B]; } }", 8, 6, -15, 8);
        told(head + "i = `a[0]; } }", 10, 0, 1, 4);
        told(head + "i = a`[0]; } }", 4, 0, 0, 4);
        told(head + "l = a`[0]; } }", 4, 1, 0, 4);
        told(head + "o = new int[`I]; } }", 8, 5, -18, 8);
        told(head + "f(`b); } }", 1, 1, 0, 1);
        told(head + "f(`I); } }", 8, 6, -18, 8);
        told(head + "`t.f(1); } }", 8, 0, 0, 8);
        told(head + "i = `t.i; } }", 8, 0, 0, 8);
        told(head + "i = t.`i; } }", 4, 0, 0, 4);
        told(head + "`b += 1; } }", 1, 0, 0, 1);
        told(head + "b `+= 1; } }", 1, 0, 0, 1);
        told(head + "b += `l; } }", 5, 0, 0, 5);
        told(head + "l += `b; } }", 1, 1, 0, 1);
        told(head + "`B++; } }", 8, 0, -15, 8);
        told(head + "l = i`++; } }", 4, 1, 0, 4);
        told(head + "switch (`i) { } } }", 4, 0, 0, 4);
        told(head + "switch (`b) { } } }", 1, 0, 0, 1);
        told(head + "switch (`I) { } } }", 8, 5, -18, 8);
        told(head + "switch (`B) { } } }", 8, 5, -15, 8);
        told(head + "throw `new Error(); } }", 8, 0, -4, 8);
        told(head + "for (long x : `a) ; } }", 10, 0, 1, 4);
        told(head + "for (int x : `c) ; } }", 10, 0, 1, 8);
        told(head + "z = `o instanceof A; } }", 8, 0, -1, 8);
        told(head + "o = z ? `i : o; } }", 4, 4, 0, 4);
        told(head + "o = z `? i : o; } }", 8, 0, -1, 8);
        told(head + "l = z `? b : i; } }", 4, 1, 0, 4);
        told(head + "l = z ? `b : i; } }", 1, 1, 0, 1);
        told(head + "i = z ? `I : i; } }", 8, 5, -18, 8);
        told(head + "o = z ? `null : t; } }", 7, 7, 0, 7);
        told(head + "o = z ? null : `t; } }", 8, 0, 0, 8);
        told(head + "b = z ? b : `1; } }", 4, 2, 0, 4);
        told(head + "o = (Object) `i; } }", 4, 4, 0, 4);
        told(head + "o = `(Object) i; } }", 8, 0, -1, 8);
    }

    /** Every expression's PLACE: ` stands ahead of each (it is no part of the text). */
    private static void placed(String marked) {
        StringBuilder want = new StringBuilder();
        StringBuilder text = new StringBuilder();
        for (int i = 0; i < marked.length(); i++) {
            if (marked.charAt(i) == '`') {
                want.append(' ').append(text.length());
            } else {
                text.append(marked.charAt(i));
            }
        }
        FrontHouse x = House.taken(text.toString());
        StringBuilder got = new StringBuilder();
        for (int i = 0; i < x.count(3); i++) {
            got.append(' ').append(x.expression(i, 0));
        }
        House.same("places of " + marked, got.toString(), want.toString());
    }

    /** "PLACE of an expression: of an operator's (cast's: its (; ?: 's: the ?) that sign, instanceof; of a call, field its name; ..", "brackets are none". */
    private static void places() {
        String head = "class A { static int s; int n; int[] r; A a; Object o; boolean z; static int f(int... x) { return `1; } A() { } A(int x) { } void m() { ";
        String[] bodies = {"`n `= `1;", "`n `= (`1);", "`n `= `1 `+ `2 `* `3;", "`n `= (`1 `+ `2) `* `3;", "`n `+= `-`1;", "`n `= `- `-`1;", "`n`++;", "`++`n;", "`n `= `(int) `n;", "`n `= `(int) `-`1;", "`n `= `z `? `1 : `2;",
            "`z `= `o `instanceof A;", "`f(`1, `2);", "A.`f();", "`this.`f();", "`n `= `this.`n;", "`n `= `a.`a.`n;", "`n `= A.`s;", "`n `= `r`[`0];", "`r`[`n]`++;", "`o `= `new A();", "`o `= `new A(`1);", "`o `= `new int[`1][`2][];", "`o `= `new int[][] `{ `{ `1 }, `{ } };",
            "int[] x = `{ `1, `2 };", "int x = `1, y;", "`n `= `'a' `+ `n;", "`z `= `!`true;", "`o `= `null;", "if (`z) ; while (`z) ; do ; while (`z); for (`n `= `1; `z; `n`++, `f()) ; for (int x : `r) ;", "switch (`n) { case `1: case `2 `+ `3: default: }", "throw `new Error();", "`a.`a.`m();", "`n `= `r.`length;", "`z `= `n `== `1 `&& `z;", "`n `= `n `<< `1 `>> `2 `>>> `3;"};
        for (String s : bodies) {
            placed(head + s + " } }");
        }
        placed("class A { A() { this(`1); } A(int x) { super(); } int x = `this.`x; }");
        placed("class P { int x; int f() { return `1; } } class A extends P { int y = super.`x, z = super.`f(); }");
        placed("class A { int x = `\\u0031 `+ `\\u0032; }");
        placed("class A { <T> T f(T x) { return `this.<T>`f(`x); } }");
    }

    /** "Methods built in: put -1 .. -5, next -6; a class's constructor that is not told: -200 less its number; of a built-in one: -100 and its number". */
    private static void methodNumbers() {
        String[] put = {"true", "1", "1L", "'a'", "null"};
        for (int i = 0; i < put.length; i++) {
            FrontHouse x = House.taken("class A { void f() { Out.put(" + put[i] + "); } }");
            House.same("put(" + put[i] + ")", x.call(0, 1), -1 - i);
            House.same("how put is called", x.call(0, 3), 0);
        }
        FrontHouse x = House.taken("class A { int f() { return In.next(); } }");
        House.same("next", x.call(0, 1), -6);
        for (int i = 0; i < 13; i++) {
            x = House.taken("class A { Object o = new " + BUILT_IN[i] + "(); }");
            House.same("new " + BUILT_IN[i], x.call(0, 1), -101 - i);
        }
        x = House.taken("class A { } class B { Object o = new A(), p = new B(); } class C { C() { super(); } }");
        House.same("new A()", x.call(0, 1), -200);
        House.same("new B()", x.call(1, 1), -201);
        House.same("super()", x.call(2, 1), -101);
        x = House.taken(House.row("class K", " { } ", "", 23) + "class L { Object o = new K22(), p = new L(); }");
        House.same("new of kind 22", x.call(0, 1), -222);
        House.same("new of kind 23", x.call(1, 1), -223);
        x = House.taken("class A { A() { this(1); } A(int x) { } private void p() { } void q() { } static void s() { } void f(A a) { p(); q(); s(); a.p(); a.q(); a.s(); A.s(); new A(); } } class B extends A { B() { super(1); } void f() { super.q(); super.s(); } }");
        int[] number = {1, 2, 3, 4, 2, 3, 4, 4, 0, 1, 3, 4};
        int[] how = {1, 1, 2, 0, 1, 2, 0, 0, 1, 1, 1, 0};
        House.same("calls", x.count(4), number.length);
        for (int i = 0; i < number.length; i++) {
            House.same("method of call " + i, x.call(i, 1), number[i]);
            House.same("how call " + i + " is done", x.call(i, 3), how[i]);
        }
    }

    /** Promises 5 to 11: "NONE if there is none such", "NONE for another what", "0 without a text". */
    private static void outside() {
        FrontHouse none = new FrontHouse();
        FrontHouse x = House.taken("class A { int f; void m() { m(); } A() { } } interface I { void n(); }");
        int[] kinds = {2, 3, 1, 1, 1, 0, 1};
        for (int what = 0; what < 7; what++) {
            House.same("count(" + what + ")", x.count(what), what == 5 || what == 6 ? 0 : kinds[what]);
            House.same("count without a text", none.count(what), 0);
        }
        for (int what : new int[] {Integer.MIN_VALUE, -1, 7, 8, Integer.MAX_VALUE}) {
            House.same("count(" + what + ")", x.count(what), -1);
            House.same("count(" + what + ")", none.count(what), -1);
            House.same("kind(0, " + what + ")", x.kind(0, what), -1);
            House.same("method(0, " + what + ")", x.method(0, what), -1);
            House.same("expression(0, " + what + ")", x.expression(0, what), -1);
            House.same("call(0, " + what + ")", x.call(0, what), -1);
        }
        House.same("method(0, 6)", x.method(0, 6), -1);
        House.same("expression(0, 6)", x.expression(0, 6), -1);
        House.same("call(0, 4)", x.call(0, 4), -1);
        for (int what = 0; what < 8; what++) {
            for (int i : FAR) {
                House.same("kind", x.kind(i, what), -1);
                House.same("method", x.method(i, what), -1);
                House.same("expression", x.expression(i, what), -1);
                House.same("call", x.call(i, what), -1);
                House.same("constant", x.constant(i), 0);
            }
            House.same("kind behind the last", x.kind(2, what), -1);
            House.same("method behind the last", x.method(3, what), -1);
            House.same("expression behind the last", x.expression(1, what), -1);
            House.same("call behind the last", x.call(1, what), -1);
            House.same("kind without a text", none.kind(0, what), -1);
            House.same("method without a text", none.method(0, what), -1);
            House.same("expression without a text", none.expression(0, what), -1);
            House.same("call without a text", none.call(0, what), -1);
        }
        House.same("constant without a text", none.constant(0), 0);
        House.same("constant behind the last", x.constant(1), 0);
        House.same("constant of a call", x.constant(0), 0);
    }

    /** Promise 11: "NONE if there is none such, k is an interface or abstract, m is static, private or a constructor, or k hasn't it". */
    private static void serving() {
        FrontHouse x = House.taken("interface I { void f(); } abstract class A implements I { void g() { } static void s() { } private void p() { } A() { } } "
            + "class B extends A { public void f() { } } class C extends B { void g() { } void h() { } } class D { void f() { } }");
        int[][] want = {{-1, -1, -1, -1, -1, -1, -1, -1, -1}, {-1, -1, -1, -1, -1, -1, -1, -1, -1}, {5, 1, -1, -1, -1, 5, -1, -1, -1},
            {5, 6, -1, -1, -1, 5, 6, 7, -1}, {-1, -1, -1, -1, -1, -1, -1, -1, 8}};
        for (int k = 0; k < 5; k++) {
            for (int m = 0; m < 9; m++) {
                House.same("serves(" + k + ", " + m + ")", x.serves(k, m), want[k][m]);
            }
            House.same("serves behind the last", x.serves(k, 9), -1);
            House.same("serves(Object's)", x.serves(k, -101), -1);
        }
        for (int i : FAR) {
            House.same("serves", x.serves(i, 0), -1);
            House.same("serves", x.serves(3, i), -1);
        }
        House.same("serves behind the last", x.serves(5, 0), -1);
        House.same("serves without a text", new FrontHouse().serves(0, 0), -1);
    }

    /** Promises 6 and 7. */
    private static void kindsAndMethods() {
        FrontHouse x = House.taken("interface I<T> { } interface J extends I<J> { } class A<T, U, V, W> { int a, b; static int c; } class B extends A<J, J, J, J> implements J { private int a; } abstract class C extends Error implements I<C>, J2 { } interface J2 { }");
        int[][] want = {{1, -1, 0, 1, 0}, {1, -1, 1, 0, 0}, {0, -1, 0, 4, 2}, {0, 2, 1, 0, 3}, {0, -4, 2, 0, 0}, {1, -1, 0, 0, 0}};
        for (int k = 0; k < want.length; k++) {
            for (int what = 0; what < 5; what++) {
                House.same("kind(" + k + ", " + (what + 1) + ")", x.kind(k, what + 1), want[k][what]);
            }
        }
        String text = "abstract class A { A(int... x) { } abstract int f(); static final long g(byte a, byte b) { int c; { char d; } return 1; } final void h(A... x) { } <T> T i() { return null; } int[] j() { return null; } A k() { return this; } boolean l() { return true; } } interface I { void m(); public abstract void n(int x); }";
        x = House.taken(text);
        int[][] methods = {{0, 1, 6, 8, 1}, {0, 0, 4, 2, 0}, {0, 2, 5, 5, 4}, {0, 1, 6, 12, 1}, {0, 0, 9, 0, 0}, {0, 0, 10, 0, 0}, {0, 0, 8, 0, 0}, {0, 0, 0, 0, 0}, {1, 0, 6, 2, 0}, {1, 1, 6, 2, 1}};
        for (int m = 0; m < methods.length; m++) {
            for (int what = 0; what < 5; what++) {
                House.same("method(" + m + ", " + (what + 1) + ")", x.method(m, what + 1), methods[m][what]);
            }
        }
        House.same("place", x.method(0, 0), text.indexOf("A(int"));
        House.same("place", x.method(4, 0), text.indexOf("i()"));
    }

    /** "NUMBERS: kinds, and methods with constructors, by text from 0 on": the last ones that there can be. */
    private static void most() {
        String text = "class A { " + House.row("void m", "(){}", "", 120) + " }";
        FrontHouse x = House.taken(text);
        House.same("methods", x.count(1), 120);
        House.same("method 119", x.method(119, 0), text.indexOf("m119"));
        House.same("method 120", x.method(120, 0), -1);
        House.same("methods of A", x.kind(0, 6), 120);
        House.same("serves", x.serves(0, 119), 119);
        House.same("serves", x.serves(0, 120), -1);
        text = "class A { int " + House.row("a", "", ",", 120) + "; }";
        x = House.taken(text);
        House.same("fields", x.count(2), 120);
        House.same("fields of an object", x.kind(0, 5), 120);
        text = House.row("interface I", " { } ", "", 6) + House.row("class K", " { } ", "", 17) + "class Z extends K0 implements " + House.row("I", "", ", ", 6) + " { void f(" + House.row("int p", "", ", ", 8) + ") { } }";
        x = House.taken(text);
        House.same("kinds", x.count(0), 24);
        House.same("kind 23", x.kind(23, 0), text.indexOf("Z extends"));
        House.same("parent of kind 23", x.kind(23, 2), 6);
        House.same("interfaces of kind 23", x.kind(23, 3), 6);
        House.same("kind 24", x.kind(24, 0), -1);
        House.same("formals", x.method(0, 2), 8);
        House.same("locals", x.method(0, 5), 8);
        text = "class A { int x = " + House.times("(", 20) + "1" + House.times(" + 1)", 20) + "; }";
        x = House.taken(text);
        House.same("expressions", x.count(3), 41);
        House.same("constants", x.count(6), 41);
        House.same("expression 40", x.expression(40, 0), text.lastIndexOf("1)"));
        House.same("expression 41", x.expression(41, 0), -1);
        StringBuilder b = new StringBuilder("class A { void f() { ");
        for (int i = 0; i < 740; i++) {
            b.append("f();");
        }
        x = House.taken(b + "} }");
        House.same("calls", x.count(4), 740);
        House.same("call 739", x.call(739, 0), b.length() - 4);
        House.same("call 740", x.call(740, 0), -1);
    }

    public static void main(String[] args) {
        most();
        types();
        conversions();
        roles();
        places();
        methodNumbers();
        outside();
        serving();
        kindsAndMethods();
        House.end("what is told");
    }
}
