/** Texts with the fault that each must have; ` stands where its place is (it is no part of the text). */
public final class FaultTexts {
    private static void due(int fault, String marked) {
        House.due(fault, marked);
    }

    private static void body(int fault, String s) {
        House.body(fault, s);
    }

    private static void fine(String text) {
        House.fine(text);
    }

    private static String times(String s, int n) {
        return House.times(s, n);
    }

    private static String kinds(int n) {
        return House.row("class K", " { } ", "", n);
    }

    private static String names(int n) {
        return House.row("a", "", ", ", n);
    }

    private static void signs() {
        fine("");
        fine(";;;");
        fine("cl\\u0061ss A { }");
        fine("cl\\uuu0061ss A { }");
        due(1, "class A { `\\u00g0 }");
        due(1, "class A { /* `\\u00 */ }");
        due(1, "class A { char c = `'\\u00'; }");
        fine("class A { /* \\\\u00 */ }");
        due(1, "class A { /* `\u0007 */ }");
        due(1, "class A { char c = `'\u0007'; }");
        due(1, "class A { char c = `'a\u0007'; }");
        due(1, "class A { char c = `'\\\u0007'; }");
        due(1, "class A { `'\u00b14");
        due(1, "class A { /* `");
        due(1, "class A { // x`");
        fine("class A { } // x");
        due(1, "class A { char c = `''; }");
        due(1, "class A { char c = `'ab'; }");
        due(1, "class A { char c = `'\\q'; }");
        due(1, "class A { char c = `'\\400'; }");
        fine("class A { char c = '\\377', d = '\\7', e = '\\47', f = '\\s', g = '\\u00e9', h = '\\u005c''; }");
        due(1, "class A { char c = `'\\u000a'; }");
        due(1, "class A { `\\u00e9 }");
        fine("class A { /* \\u00e9 */ }");
        due(1, "class A { int i = 0`8; }");
        due(1, "class A { int i = 1`_; }");
        due(1, "class A { int i = 0`x_1; }");
        due(1, "class A { int i = `2147483648; }");
        fine("class A { int i = -2147483648, j = - 2147483648; long l = -9223372036854775808L; }");
        due(1, "class A { int i = -(`2147483648); }");
        due(1, "class A { int i = 1 - `2147483648; }");
        due(1, "class A { int i = -2147483648 `.x; }");
        due(1, "class A { int i = -2147483648`++; }");
        due(1, "class A { int i = `4294967296; }");
        fine("class A { int i = 0xFFFFFFFF, j = 037777777777, k = 0b1111_0000, l = 1__0, m = 0_7; long n = 0x8000000000000000l; }");
        due(1, "class A { int i = `040000000000; }");
        due(1, "class A { int i = `0x1_0000_0000; }");
        due(3, "class `a123456789012345678901234567890 { }");
        fine("class a12345678901234567890123456789 { }");
        due(1, "class A { `# }");
        due(1, "class A { int `goto; }");
        due(1, "class A { int `_; }");
    }

    private static void refused() {
        due(2, "class A { Object o = `\"x\"; }");
        due(2, "class A { Object o = `\"x; }");
        due(2, "class A { int i = `1.5; }");
        due(2, "class A { int i = `1e3; }");
        due(2, "class A { int i = `08f; }");
        due(2, "class A { int i = `0x1p3; }");
        due(2, "class A { int i = `.5; }");
        due(2, "class A { int i = 0x1`.8; }");
        due(2, "class A { `double d; }");
        due(2, "`import x;");
        due(2, "`enum E { }");
        due(2, "class A { int `var; }");
        due(2, "class `record { }");
        due(2, "class A { `@X int i; }");
        body(2, "n = x `-> x;");
        body(2, "n = `? 1 : 2;");
        due(2, "class A<T> { A<`?> a; }");
        due(2, "class A<T> { A`<> a; }");
        due(2, "class A<T> { A<A`<>> a; }");
        due(1, "class A<`> { }");
        due(2, "class A<T extends Object `& Object> { }");
        due(2, "class A { `{ } }");
        due(2, "class A { static `{ } }");
        due(1, "interface A { `{ } }");
        body(2, "new Object() `{ };");
        due(2, "class A { `class B { } }");
        due(2, "class A { static final `class B { } }");
        body(2, "`class B { }");
        body(2, "final `class B { }");
        body(2, "Object o = A.`class;");
        body(2, "Object o = A.`this;");
        body(2, "int i = `switch (1) { };");
        body(2, "try { } catch (Error `| Exception e) { }");
        body(2, "try `(int x) { }");
        body(2, "boolean b = n `< > 1;");
    }

    private static void grammar() {
        due(1, "class A { int x `}");
        due(1, "class A {`");
        due(1, "class A { public `; }");
        due(1, "interface A { A`() { } }");
        due(1, "class A<T> { A<int`> a; }");
        fine("class A<T> { A<int[]> a; A<A<A<int[]>>> b; }");
        body(1, "if (true) `int x = 1;");
        body(1, "if (true) A `x;");
        body(1, "(n = 1)`;");
        body(1, "n + 1`;");
        body(1, "n`;");
        body(1, "new int[1]`;");
        body(1, "A[] `= n;");
        body(1, "A<A, A `5;");
        body(1, "n = (A[]) `-n;");
        body(1, "n = (A<A>) `+ n;");
        body(0, "n = (n) + n; n = (int) + n; Object o = (Object) (Object) null;");
        body(1, "n = new int[] { 1 }`[0];");
        body(1, "n = new int[2][][`3].length;");
        body(0, "n = new int[2][].length; int[] a = { 1, 2, }, b = { , }, c = { };");
        body(1, "int[] a = { 1, `, };");
        body(1, "try { } `;");
        body(1, "switch (n) { `n++; }");
        body(1, "switch (n) { case 1`, 2: }");
        body(1, "n = this`(1);");
        body(1, "n = super`;");
        body(1, "for (n`; ; ) ;");
        body(1, "for (int i, j `: null) ;");
        body(1, "n++ `.x = 1;");
        body(1, "f(1, `);");
        body(1, "A.<A>f`;");
        body(1, "boolean b = n instanceof Object `x;");
        body(1, "`else ;");
        due(1, "class A { void f(int... x`, int y) { } }");
        due(1, "class A { void f(int... x`[]) { } }");
        due(1, "class A { void f() throws Error`[] { } }");
        due(1, "class A { <T> A`() { } }");
        due(1, "class A { A() `; }");
    }

    private static void limits() {
        due(3, "class A { int i = " + times("(", 23) + "`(1" + times(")", 24) + "; }");
        fine("class A { int i = " + times("(", 23) + "1" + times(")", 23) + "; }");
        due(3, "class A { int i = " + times("-", 1) + times(" -", 22) + " `-1; }");
        due(3, "class A { int i = 1" + times(" + 1", 39) + " `+ 1; }");
        fine("class A { int i = 1" + times(" + 1", 39) + "; }");
        due(3, times("class A { }", 0) + kinds(24) + "class `X { }");
        fine(kinds(24));
        due(3, "class A { int " + names(120) + ", `z; }");
        fine("class A { int " + names(120) + "; }");
        due(3, "class A<B, C, D, E, `F> { }");
        due(3, "class A { void f(int a, int b, int c, int d, int e, int g, int h, int i, `int j) { } }");
        body(3, "f(1, 2, 3, 4, 5, 6, 7, 8, `9);");
        body(1, "f(1, 2, 3, 4, 5, 6, 7, 8, `);");
        due(3, "class A { void f() throws Error, Error, Error, Error, Error, Error, `Error { } }");
        due(3, "class A { int[][][][]`[] a; }");
        due(3, "class A { int[][] a[][]`[]; }");
        due(3, "class A { void f(int[][][][]`... a) { } }");
        body(3, "Object o = new int[1][1][1][1]`[1];");
        due(3, "class A { int[] a = { " + times("1, ", 40) + "`1 }; }");
        fine("class A { int[] a = { " + times("1, ", 40) + "}; }");
        due(3, "class A { void f() { int " + names(40) + ", `z; } }");
        due(3, "class A { final int " + names(20) + ", `z; }");
        due(3, "class A { void f() { " + times("if (true) ", 21) + "if `(true) ; } }");
        due(3, "class A { void f() { " + times("do ", 22) + "`do ; } }");
        due(3, "class A { void f() { int i; i " + times("= i ", 22) + "`= 1; } }");
        body(3, "A<A, A, A, A, A, A, `A 5;");
    }

    private static void declarations() {
        due(30, "class A { } class `A { }");
        due(30, "class `Object { }");
        due(30, "class A<T, `T> { }");
        due(30, "class A { int x; int `x; }");
        due(31, "class A { `B b; }");
        due(31, "class A<T> { static `T t; }");
        due(31, "class A<T> { static `T t; } class T { }");
        fine("class A<T> { static <T> void f(T t) { T u = t; } T t; }");
        due(31, "class A<T> { `A a; }");
        due(31, "class A<T> { `A<T, T> a; }");
        due(31, "class A<T> { `T<A> a; }");
        due(31, "class A { `Object<A> a; }");
        due(31, "class A { void f() { Object o = new `B(); } }");
        due(32, "class A<T extends Error> { A<`Object> a; }");
        fine("class A<T extends A<T>> { } class B extends A<B> { }");
        due(32, "class A<T extends A<T>> { } class B extends A<`Object> { }");
        due(33, "interface I { } class A extends `I { }");
        due(33, "class A { } class B implements `A { }");
        due(33, "class A { } interface B extends `A { }");
        due(33, "class A extends `Integer { }");
        due(33, "final class A { } class B extends `A { }");
        due(33, "class A<T> extends `T { }");
        due(33, "interface I { } class A implements I, `I { }");
        due(33, "class A extends `B { } class B extends A { }");
        due(33, "class C extends B { } class B extends `B { }");
        due(33, "class A<T> extends `Exception { }");
        due(33, "class A<`T extends U, U extends T> { }");
        due(33, "class A<`T extends T> { }");
        due(34, "class A { public `public int x; }");
        due(34, "class A { public `private int x; }");
        due(34, "`private class A { }");
        due(34, "class A implements I { } `final interface I { }");
        due(34, "interface A extends I { } `final interface I { }");
        due(34, "abstract `final class A { }");
        due(34, "`final interface A { }");
        due(34, "class A { `abstract int x; }");
        due(34, "class A { `static A() { } }");
        due(34, "abstract class A { abstract `static void f(); }");
        due(34, "interface A { `static void f(); }");
        due(34, "interface A { void `f() { } }");
        due(34, "class A { void `f(); }");
        due(34, "class A { abstract void `f(); }");
        due(34, "abstract class A { abstract void `f() { } }");
        due(34, "interface A { int `x; }");
        due(34, "class A { `B() { } }");
        due(35, "class A { void f(int x) { } int `f(int y) { return 1; } }");
        due(35, "class A<T> { void f(T x) { } void `f(Object y) { } }");
        due(35, "class A { A() { } `A() { } }");
        due(38, "class A { void f() throws `Object { } }");
        due(38, "class A { void f() { try { } catch (`A e) { } } }");
        fine("class A { <T extends Error> void f() throws T { } }");
        due(38, "class A { <T extends Error> void f() { try { } catch (`T e) { } } }");
    }

    private static void overrides() {
        due(36, "class A { int f() { return 1; } } class B extends A { long `f() { return 1; } }");
        due(36, "class A { static void f() { } } class B extends A { void `f() { } }");
        due(36, "class A { void f() { } } class B extends A { static void `f() { } }");
        due(36, "class A { final void f() { } } class B extends A { void `f() { } }");
        due(36, "class A { public void f() { } } class B extends A { void `f() { } }");
        due(36, "interface I { void f(); } class B implements I { void `f() { } }");
        due(36, "class A { void f() { } } class B extends A { void `f() throws Exception { } }");
        fine("class A { void f() throws Exception { } } class B extends A { void f() throws Error { } }");
        fine("class A { Object f() { return null; } } class B extends A { B f() { return null; } }");
        due(36, "class A<T> { void f(T t) { } } class B extends A<Integer> { void `f(Object o) { } }");
        fine("class A<T> { void f(T t) { } } class B<U> extends A<U> { void f(Object o) { } }");
        fine("class A { <T> void f(T t) { } } class B extends A { void f(Object o) { } }");
        due(36, "class A { void f(Object o) { } } class B extends A { <T> void `f(T t) { } }");
        due(37, "interface I<T> { } interface J extends I<Byte> { } class P<T extends I<Byte>> { } class Q { P<C> p; } class `C implements I<Long>, J { }");
        due(32, "interface I<T> { } interface J extends I<Byte> { } class P<T extends I<In>> { } class Q { P<`C> p; } class C implements I<Long>, J { }");
        due(37, "interface I { void f(); } class `B implements I { }");
        due(37, "abstract class A { abstract void f(); } class `B extends A { }");
        fine("interface I { void f(); } class A { public void f() { } } class B extends A implements I { }");
        due(37, "interface I { void f(); } class A { void f() { } } class `B extends A implements I { }");
        due(37, "interface I { void f(); } interface J { int f(); } interface `K extends I, J { }");
        fine("interface I { Object f(); } interface J { Error f(); } interface K extends I, J { }");
        due(37, "interface I<T> { } class A implements I<A> { } class `B extends A implements I<B> { }");
        due(37, "class A<T> { void f(T t) { } void f(Integer i) { } } class `B extends A<Integer> { }");
        due(37, "interface I<T> { void f(I<T> x); } interface J { void f(I<Object> x); } abstract class `B implements I<Error>, J { }");
    }

    private static void bodies() {
        due(40, "class A { void f(int x, int `x) { } }");
        body(40, "int x; { int `x; }");
        body(40, "a: { `a: ; }");
        body(40, "try { } catch (Error e) { int `e; }");
        body(40, "n = `q;");
        body(40, "n = A.`q;");
        body(40, "n = `Q.q;");
        body(40, "n = `A;");
        body(40, "int[] a = { }; n = a.`size;");
        due(40, "class A<T> { void f() { int i = T.`x; } }");
        due(40, "class A { int x = `y; int y = 1; }");
        due(40, "class A { int x = `x + 1; }");
        fine("class A { int x = y = 2; int y = 1; static int a = A.b; static int b = 1; int c = b; }");
        due(40, "class A { int x = `y++; int y = 1; }");
        body(41, "int i = `1L;");
        body(41, "byte b = `128;");
        body(0, "byte b = 127; Byte c = 1; char d = 65; Character e = 65; long l = 'a'; Long m = 1L; Object o = 1;");
        body(41, "Long l = `1;");
        body(41, "if (`n) ;");
        body(41, "int[] a = new int[`1L];");
        body(41, "throw `new Object();");
        body(41, "for (int i : `n) ;");
        body(41, "for (byte i : `new int[1]) ;");
        body(41, "int i = `{ 1 };");
        body(42, "n = 1 `+ true;");
        body(42, "n = `!1;");
        body(42, "n = n`[0];");
        body(42, "Byte b = 1; b `+= 1;");
        body(0, "Byte b = 1; b++; Integer i = 1; i += 1; Long l = 1L; l += 1; byte c = 1; c += 5L;");
        body(42, "boolean b = 1 `== null;");
        body(43, "`f();");
        body(43, "`f(1L);");
        body(43, "`h();");
        body(43, "Object o = `new Integer();");
        due(43, "class A { A(int x) { } } class `B extends A { }");
        due(43, "class A { A(int x) { } } class B extends A { `B() { } }");
        due(43, "class A { A(int x) { `this(); } }");
        due(44, "class A { static void f(int x, long y) { } static void f(long x, int y) { } static void g() { `f(1, 1); } }");
        due(45, "class A { int x; static void f() { `x = 1; } }");
        due(45, "class A { void g() { } static void f() { `g(); } }");
        due(45, "class A { static Object f() { return `this; } }");
        due(45, "class A { int x; A(int i) { } A() { this(`x); } }");
        due(45, "class A { int x; static int f() { return A.`x; } }");
        due(46, "class A { private int x; } class B { int f(A a) { return a.`x; } }");
        due(40, "class A { private int x; } class B extends A { int f(B a) { return a.`x; } }");
        due(40, "class A { private int x; <T extends A> int f(T a) { return a.`x; } }");
        due(43, "class A { private void f() { } } class B { void g(A a) { a.`f(); } }");
        due(43, "class A { private A() { } } class B { Object g() { return `new A(); } }");
        due(47, "class A { <T> void f(T t) { } void g() { `f(1); } }");
        fine("class A { <T> void f(T t) { } void g() { this.<Object>f(1); } }");
        due(47, "class A { <T> void f(T t) { } void g() { `f(q); } }");
        body(48, "1 `= n;");
        body(48, "final int x = 1; x `= 2;");
        body(48, "int[] a = { }; a.length`++;");
        due(48, "class A { void f(final int x) { x `= 1; } }");
        due(48, "class A { final int x; A(A a) { a.x `= 1; } }");
        due(48, "class A { final int x = 1; void f() { x `= 1; } }");
        due(48, "class A { static final int x; A() { x `= 1; } }");
        fine("class A { final int x; A() { (this).x = 1; } }");
        due(49, "abstract class A { Object f() { return new `A(); } }");
        due(49, "class A<T> { Object f() { return new `T(); } }");
        due(49, "class A<T> { Object f() { return new `T[1]; } }");
        due(49, "class A<T> { T[] a = `{ }; }");
        body(49, "`this();");
        due(49, "class A { A() { `this(1); } A(int x) { this(); } }");
        due(49, "abstract class A { abstract void f(); } class B extends A { void f() { super.`f(); } }");
        body(50, "switch (`1L) { }");
        body(50, "switch (n) { case `n: }");
        body(50, "switch (n) { case 1: case `1: }");
        body(50, "switch (n) { default: `default: }");
        body(50, "byte b = 1; switch (b) { case `200: }");
        fine("class A<T extends Byte> { void f(T t) { switch (t) { case 1: } } }");
        due(50, "class A<T extends Byte> { void f(T t) { switch (t) { case `200: } } }");
        body(51, "`break;");
        body(51, "`continue;");
        body(51, "a: { `continue a; }");
        body(51, "while (true) { `break a; }");
        body(51, "`return 1;");
        due(51, "class A { int f() { `return; } }");
        body(52, "Integer i = `(Integer) 1L;");
        body(52, "A a = `(A) new Error();");
        body(52, "Integer i = 1; Long l = 1L; boolean b = i `== l;");
        body(52, "boolean b = new Object() `instanceof int;");
        due(52, "class A<T> { boolean f(Object o) { return o `instanceof A<T>; } }");
        body(53, "int i = `g();");
        body(53, "f(`g());");
        body(54, "Object o = n > 1 `? new A() : new Error();");
        body(0, "Object o = n > 1 ? 1 : new Object(); Integer i = n > 1 ? 1 : null;");
    }

    private static void flow() {
        body(60, "return; `n++;");
        body(60, "while (true) ; `n++;");
        body(60, "while (false) `{ }");
        body(60, "for (;;) { } `;");
        body(0, "if (false) n++; while (n > 0) { break; } do { continue; } while (n > 0);");
        body(60, "do { break; } while (true); throw null; `;");
        body(60, "a: { try { break a; } finally { return; } } `n++;");
        due(60, "class A { int f() { `} }");
        fine("class A { int f() { while (true) { } } }");
        body(61, "int x; n = `x;");
        body(61, "int x; if (n > 0) x = 1; n = `x;");
        body(0, "int x; if (n > 0 && (x = 1) > 0) n = x; else x = 2; n = x;");
        body(61, "int x; if (n > 0 && (x = 1) > 0) n = x; n = `x;");
        body(0, "int x; while (true) { x = 1; break; } n = x;");
        body(61, "switch (n) { case 1: final int k = 5; break; case 2: n = `k; }");
        body(0, "switch (n) { case 1: final int k = 5; break; case 2: switch (n) { case k: } }");
        due(61, "class A { final int `x; }");
        due(61, "class A { final int x; `A() { } }");
        due(61, "class A { static final int `x; }");
        due(61, "class A { final int x; A() { int y = `x; x = 1; } }");
        fine("class A { final int x; A() { this(1); } A(int y) { x = y; } }");
        body(62, "final int x; x = 1; x `= 2;");
        body(62, "final int x; while (n > 0) x `= 1;");
        body(0, "final int x; while (true) { x = 1; break; }");
        due(62, "class A { final int x; A() { this(1); x `= 1; } A(int y) { x = y; } }");
        body(62, "final int x; try { x = 1; } finally { n++; x `= 2; }");
        body(63, "`throw new Exception();");
        due(63, "class A { void f() throws Exception { } void g() { `f(); } }");
        due(63, "class A { A() throws Exception { } } class `B extends A { }");
        due(63, "class A { A() throws Exception { } } class B extends A { `B() { } }");
        due(63, "class A { A() throws Exception { } A a = `new A(); static A b; A(int x) { } }");
        fine("class A { A() throws Exception { } A a = new A(); }");
        due(63, "class A { A() throws Exception { } static A a = `new A(); }");
        due(64, "class E extends Exception { } class A { void f() { try { } catch (`E e) { } } }");
        body(64, "try { } catch (RuntimeException e) { } catch (`ArithmeticException e) { }");
        body(0, "try { } catch (Exception e) { throw e; }");
        due(63, "class E extends Exception { } class A { void f() { try { throw new E(); } catch (Exception e) { `throw e; } } }");
        fine("class E extends Exception { } class A { void f() throws E { try { throw new E(); } catch (Exception e) { throw e; } } }");
        due(63, "class E extends Exception { } class A { void f() throws E { try { throw new E(); } catch (Exception e) { e = null; `throw e; } } }");
        body(0, "try { throw new Exception(); } finally { return; }");
    }

    public static void main(String[] args) {
        signs();
        refused();
        grammar();
        limits();
        declarations();
        overrides();
        bodies();
        flow();
        House.end("texts with faults");
    }
}
