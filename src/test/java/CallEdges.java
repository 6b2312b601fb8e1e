/** Faults 43 to 47 and 49: calls, what is chosen, what can be seen, and what may be made. */
public final class CallEdges {

    /** 43: "a call for which no method or constructor is applicable by any phase (at its PLACE ..)". */
    private static void none() {
        House.body(43, "`h();");
        House.body(43, "`f();");
        House.body(43, "`f(1, 2);");
        House.body(43, "`f(true);");
        House.body(43, "`f(1L);");
        House.body(43, "`f(null);");
        House.body(0, "f(1); f('a'); Byte b = 1; f(b); A.f(1); new A().f(1);");
        House.body(43, "A.`h();");
        House.body(43, "n.`f(1);");
        House.body(43, "null.`f(1);");
        House.body(43, "new int[1].`f(1);");
        House.body(43, "new int[1].`length();");
        House.body(43, "new Object().`f(1);");
        House.body(43, "Out.`put();");
        House.body(43, "Out.`put(1, 2);");
        House.body(43, "n = In.`next(1);");
        House.body(43, "`new A(1);");
        House.body(43, "`new Error(1);");
        House.body(43, "`new In();");
        House.body(43, "`new Out();");
        House.body(43, "`new Integer();");
        House.body(43, "Object o = `new Boolean(true);");
        House.body(0, "new A(); new Object(); new Error(); new NullPointerException(); new NoClassDefFoundError();");
        House.due(43, "class A { A() { `this(1); } }");
        House.due(43, "class A { A() { `super(1); } }");
        House.due(43, "class P { P(int x) { } } class A extends P { `A() { } }");
        House.due(43, "class P { P(int x) { } } class `A extends P { }");
        House.due(43, "class P { private P() { } } class `A extends P { }");
        House.due(43, "class P { private P() { } } class A extends P { A() { `super(); } }");
        House.fine("class P { P(int... x) { } } class A extends P { } class B extends P { B() { } } class C extends P { C() { super(); } }");
        House.fine("class P { P() { } private P(int x) { } } class A extends P { }");
    }

    /** 44: "one for which no method is most specific (there)". */
    private static void many() {
        House.due(44, "class A { void f(int x, long y) { } void f(long x, int y) { } void g() { `f(1, 1); } }");
        House.fine("class A { void f(int x, long y) { } void f(long x, int y) { } void f(int x, int y) { } void g() { f(1, 1); } }");
        House.fine("class A { void f(int x, long y) { } void f(long x, int y) { } void g() { f(1, 1L); f(1L, 1); } }");
        House.due(44, "class A { void f(Error x) { } void f(Exception x) { } void g() { `f(null); } }");
        House.fine("class A { void f(Throwable x) { } void f(Exception x) { } void g() { f(null); } }");
        House.due(44, "class A { void f(int... x) { } void f(boolean... x) { } void g() { `f(); } }");
        House.fine("class A { void f(int... x) { } void f(long... x) { } void g() { f(); f(1); } }");
        House.due(44, "class A { void f(int... x) { } void f(Integer... x) { } void g() { `f(1); } }");
        House.due(44, "class A { void f(int x, int... y) { } void f(int... x) { } void g() { `f(1); } }");
        House.due(44, "class A { A(Error x) { } A(Exception x) { } void g() { `new A(null); } }");
        House.due(44, "class A { A() { `this(null); } A(Error x) { } A(Exception x) { } }");
        House.due(44, "class P { P(int... x) { } P(boolean... x) { } } class `A extends P { }");
        House.due(44, "class P { P(int... x) { } P(boolean... x) { } } class A extends P { `A() { } }");
        House.due(44, "class P { P(int... x) { } P(boolean... x) { } } class A extends P { A() { `super(); } }");
        House.due(44, "class A<T> { void f(T x) { } void f(Error x) { } void g(A<Error> a) { a.`f(null); } }");
        House.fine("class A<T> { void f(T x) { } void f(Error x) { } void g(A<Exception> a) { a.f(new Error()); } }");
    }

    /** "Of several most specific ones with the same signature [15.12.2.5] the one that alone isn't abstract; if all are, ..". */
    private static void alike() {
        String faces = "interface I { Throwable f(); } interface J { Error f(); } interface K extends I, J { } ";
        FrontHouse x = House.taken(faces + "class A { Error g(K k) { return k.f(); } }");
        House.same("the lower result", x.call(0, 1), 1);
        x = House.taken("interface I { Error f(); } interface J { Error f(); } interface K extends J, I { } class A { Error g(K k) { return k.f(); } }");
        House.same("the least number", x.call(0, 1), 0);
        x = House.taken("interface I { void f(); } abstract class A { public abstract void f(); } abstract class B extends A implements I { void g() { f(); } }");
        House.same("the least number", x.call(0, 1), 0);
        x = House.taken("interface I { Throwable f(); } interface J { Error f(); } abstract class K implements J, I { void g() { f(); } }");
        House.same("the lower result", x.call(0, 1), 1);
    }

    /** The three phases [15.12.2]: by types alone, by boxes too, by ... too. */
    private static void phases() {
        String[] formals = {"long x", "Integer x", "Object x", "int... x"};
        int[] phase = {1, 2, 2, 3};
        for (int first = 0; first < formals.length; first++) {
            StringBuilder b = new StringBuilder("class A { ");
            for (int i = formals.length - 1; i >= first; i--) {
                b.append("void f(").append(formals[i]).append(") { } ");
            }
            FrontHouse x = House.taken(b + "void g() { f(1); } }");
            House.same("phase of f(" + formals[first] + ")", x.call(0, 2), phase[first]);
            House.same("f(" + formals[first] + ")", x.call(0, 1), formals.length - 1 - first);
        }
        FrontHouse x = House.taken("class A { void f(int... x) { } void g() { f(new int[1]); f(null); f(); f(1); f(1, 2); f('a'); } }");
        int[] want = {1, 1, 3, 3, 3, 3};
        for (int i = 0; i < want.length; i++) {
            House.same("phase of call " + i, x.call(i, 2), want[i]);
        }
        House.due(43, "class A { void f(int x, int... y) { } void g() { `f(); } }");
        House.fine("class A { void f(int x, int... y) { } void g() { f(1); f(1, 2); f(1, new int[1]); f(1, null); } }");
        House.due(43, "class A { void f(int... x) { } void g() { `f(new int[1], 1); } }");
        House.due(43, "class A { void f(Byte x) { } void g() { `f(1); } }");
        House.due(43, "class A { void f(Long x) { } void g() { `f(1); } }");
    }

    /** 45: "what isn't static, by simple name, this, super, in what is static (at it; a method is chosen first; ..". */
    private static void still() {
        String[] uses = {"int y = `x;", "`x = 1;", "`x++;", "`m();", "Object o = `this;", "int y = `this.x;", "`this.m();", "int y = `super.hx;", "`super.hm();", "int y = A.`x;", "A.`m();"};
        String head = "class P { int hx; void hm() { } } class A extends P { int x; void m() { } ";
        for (String u : uses) {
            House.due(45, head + "static void g() { " + u + " } }");
            boolean byKind = u.contains("A.");
            House.due(byKind ? 45 : 0, head + "void g() { " + u + " } }");
        }
        House.due(45, head + "static int y = `x; }");
        House.due(45, head + "static Object y = `this; }");
        House.due(45, head + "static int y = `super.hx; }");
        House.fine(head + "static int y = new A().x; static void g(A a) { a.m(); int z = a.x; } int w = x; Object v = this; }");
        House.due(45, "class A { void f(int x) { } static void f(long x) { } static void g() { `f(1); } }");
        House.fine("class A { void f(int x) { } static void f(long x) { } static void g() { f(1L); } }");
        String[] inCall = {"`x", "`m()", "`this", "`this.x", "`super.hx", "`super.hm()", "1 + `x"};
        for (String u : inCall) {
            String two = "class P { int hx; int hm() { return 1; } P(Object o) { } P() { } } class A extends P { int x; int m() { return 1; } A() { } ";
            House.due(45, two + "A(int i) { this(i, " + u + "); } A(int i, Object o) { } }");
            House.due(45, two + "A(int i) { super(" + u + "); } }");
        }
        House.fine("class A { static int s; static int t() { return 1; } A(int x) { this(x, s, t(), new A(1, 2, 3, 4).y); } A(int a, int b, int c, int d) { } int y; }");
    }

    /** 46: "what is private of another kind ..". */
    private static void hidden() {
        String head = "class P { private int x; private static int s; private void m() { } private static void t() { } private P(int i) { } P() { } void q(P p) { p.x = p.s; p.m(); p.t(); new P(1); } } ";
        House.fine(head);
        House.due(46, head + "class A { int y = new P().`x; }");
        House.due(46, head + "class A { int y = P.`s; }");
        House.due(46, head + "class A { void f(P p) { p.`x = 1; } }");
        House.due(46, head + "class A extends P { int y = super.`x; }");
        House.due(43, head + "class A { void f(P p) { p.`m(); } }");
        House.due(43, head + "class A { void f() { P.`t(); } }");
        House.due(43, head + "class A extends P { void f() { `m(); } }");
        House.due(43, head + "class A extends P { void f() { super.`m(); } }");
        House.due(43, head + "class A { Object o = `new P(1); }");
        House.due(40, head + "class A extends P { int y = `x; }");
        House.due(40, head + "class A extends P { int y = this.`x; }");
        House.due(40, head + "class A extends P { } class B { int y = new A().`x; }");
        House.due(40, "class P<T extends P<T>> { private int x; int f(T t) { return t.`x; } }");
        House.due(43, "class P<T extends P<T>> { private void m() { } void f(T t) { t.`m(); } }");
        House.due(40, "class P { private int x; int f(A a) { return a.`x; } } class A extends P { }");
        House.due(43, "class P { private void m() { } void f(A a) { a.`m(); } } class A extends P { }");
        House.fine("class P { private void m(int x) { } void m(long x) { } } class A extends P { void f() { m(1); } }");
    }

    /** 47: "a call without type arguments of a name for which a method with vars is potentially applicable by its number of formals and can be seen". */
    private static void untold() {
        House.due(47, "class A { <T> void f(T x) { } void g() { `f(1); } }");
        House.fine("class A { <T> void f(T x) { } void g() { this.<Integer>f(1); } }");
        House.due(47, "class A { <T> void f(T x) { } void f(int x) { } void g() { `f(1); } }");
        House.fine("class A { <T> void f(T x) { } void f(int x, int y) { } void f() { } void g() { f(1, 2); f(); } }");
        House.due(47, "class A { <T> void f(T... x) { } void f(int x, int y) { } void g() { `f(1, 2); } }");
        House.due(47, "class A { <T> void f(int x, T... y) { } void f() { } void g() { `f(1); } }");
        House.fine("class A { <T> void f(int x, T... y) { } void f() { } void g() { f(); } }");
        House.due(47, "class A { static <T> void f() { } void g() { A.`f(); } }");
        House.fine("class A { private <T> void f(int x) { } void f(long x) { } } class B { void g(A a) { a.f(1); } }");
        House.due(43, "class A { private <T> void f(int x) { } } class B { void g(A a) { a.`f(1); } }");
        House.due(47, "class A { <T> void f(int x) { } void g() { `f(true); } }");
        House.due(40, "class A { <T> void f(int x) { } void g() { f(`q, 1); } }");
        House.due(47, "class A { <T> void f(int x) { } void g() { `f(q); } }");
    }

    /** "with type arguments a method without vars is as without them; one with vars is looked at if it has as many, and they are within its bounds". */
    private static void typeArguments() {
        House.fine("class A { void f(int x) { } void g() { this.<A>f(1); this.<A, A[], int[]>f(1); } }");
        House.due(43, "class A { <T> void f(T x) { } void g() { this.<A>`f(1); } }");
        House.due(43, "class A { <T> void f(T x) { } void g() { this.<Integer, Integer>`f(1); } }");
        House.fine("class A { <T extends Error> void f() { } void g() { this.<Error>f(); this.<NoClassDefFoundError>f(); } }");
        House.due(43, "class A { <T extends Error> void f() { } void g() { this.<Throwable>`f(); } }");
        House.fine("class A { <T, U extends T> void f() { } void g() { this.<Throwable, Error>f(); } }");
        House.due(43, "class A { <T, U extends T> void f() { } void g() { this.<Error, Throwable>`f(); } }");
        FrontHouse x = House.taken("class A { <T> void f(T x) { } <T, U> void f(int x, T y) { } void g() { this.<Integer>f(1); } }");
        House.same("the one with vars", x.call(0, 1), 0);
        House.due(44, "class A<U> { <T> void f(T x, Object y) { } void f(Object x, Error y) { } void g() { this.<Error>`f(new Error(), new Error()); } }");
    }

    /** 49: "new of an abstract class, an interface, a var ..; an array's elements of which are not reifiable ..". */
    private static void made() {
        House.body(0, "new A();");
        House.due(49, "abstract class A { void f() { new `A(); } }");
        House.due(49, "interface I { } class A { Object o = new `I(); }");
        House.due(49, "class A<T> { Object o = new `T(); }");
        House.due(49, "abstract class A { A(int x) { } Object o = new `A(true); }");
        House.due(49, "class A<T> { Object o = new `T[1]; }");
        House.due(49, "class A<T> { Object o = new `A<T>[1]; }");
        House.due(49, "class A<T> { Object o = new `A<Error>[1][]; }");
        House.due(49, "class A<T> { Object o = new `T[] { }; }");
        House.due(49, "class A<T> { T[] o = `{ }; }");
        House.due(49, "class A<T> { A<T>[] o = `{ null }; }");
        House.due(49, "class A<T> { T[][] o = `{ { } }; }");
        House.fine("class A<T> { Object o = new A<T>(), p = new Object[1], q = new int[1]; T[] s = null; A<T>[] t; }");
        House.fine("abstract class A { Object o = new A[1], p = new A[] { null }; A[] q = { }; } interface I { }");
        House.due(49, "class A { void f() { `this(); } }");
        House.due(49, "class A { A() { int x; `this(1); } A(int x) { } }");
        House.due(49, "class A { A() { super(); `super(); } }");
        House.due(49, "class A { A() { { `super(); } } }");
        House.due(49, "class A { static void f() { `super(); } }");
        House.due(49, "class A { A() { `this(); } }");
        House.due(49, "class A { A() { `this(1); } A(int x) { this(); } }");
        House.due(49, "class A { A(byte b) { this(); } A() { `this(1); } A(int x) { this(true); } A(boolean b) { this(); } }");
        House.fine("class A { A() { this(1); } A(int x) { this(true); } A(boolean b) { } }");
        House.due(49, "abstract class P { abstract void f(); } abstract class A extends P { void f() { super.`f(); } }");
        House.due(49, "interface I { void f(); } abstract class P implements I { } class A extends P { public void f() { super.`f(); } }");
        House.fine("abstract class P { abstract void f(); void g() { } } class A extends P { void f() { super.g(); } }");
    }

    public static void main(String[] args) {
        none();
        many();
        alike();
        phases();
        still();
        hidden();
        untold();
        typeArguments();
        made();
        House.end("calls");
    }
}
