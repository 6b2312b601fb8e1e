/** Faults 36 and 37: methods that override, hide or meet one another; and which ones a kind has. */
public final class MemberEdges {

    /** A method in class A, and one below it in class B that is marked. */
    private static void pair(int fault, String above, String below) {
        House.due(fault, "class A { " + above + " } class B extends A { " + below + " }");
    }

    /** A method that interface I tells, and one in class B. */
    private static void told(int fault, String above, String below) {
        House.due(fault, "interface I { " + above + " } class B implements I { " + below + " }");
    }

    /** "static against not static, a final one [8.4.3.3]", "access". */
    private static void flags() {
        pair(0, "void f() { }", "void f() { }");
        pair(0, "static void f() { }", "static void f() { }");
        pair(36, "static void f() { }", "void `f() { }");
        pair(36, "void f() { }", "static void `f() { }");
        pair(36, "final void f() { }", "void `f() { }");
        pair(36, "static final void f() { }", "static void `f() { }");
        pair(0, "private final void f() { }", "void f() { }");
        pair(0, "private void f() { }", "static int f() { return 1; }");
        pair(0, "final void f(int x) { }", "void f(long x) { }");
        told(36, "void f();", "public static void `f() { }");
        String[] rank = {"private", "", "protected", "public"};
        for (int a = 1; a < 4; a++) {
            for (int b = 0; b < 4; b++) {
                pair(b < a ? 36 : 0, rank[a] + " void f() { }", rank[b] + " void `f() { }");
                pair(b < a ? 36 : 0, rank[a] + " static void f() { }", rank[b] + " static void `f() { }");
            }
        }
        for (int b = 0; b < 4; b++) {
            told(b < 3 ? 36 : 0, "void f();", rank[b] + " void `f() { }");
        }
        House.due(36, "class A { public void f() { } } class B extends A { } class C extends B { void `f() { } }");
        House.due(36, "interface I { void f(); } abstract class A implements I { } class B extends A { void `f() { } }");
    }

    /** "result [8.4.5]". */
    private static void results() {
        pair(0, "int f() { return 1; }", "int f() { return 1; }");
        pair(36, "int f() { return 1; }", "long `f() { return 1; }");
        pair(36, "long f() { return 1; }", "int `f() { return 1; }");
        pair(36, "void f() { }", "int `f() { return 1; }");
        pair(36, "int f() { return 1; }", "void `f() { }");
        pair(36, "Integer f() { return 1; }", "int `f() { return 1; }");
        pair(36, "int f() { return 1; }", "Integer `f() { return 1; }");
        pair(0, "Object f() { return null; }", "A f() { return null; }");
        pair(36, "A f() { return null; }", "Object `f() { return null; }");
        pair(0, "A f() { return null; }", "B f() { return null; }");
        pair(0, "Object f() { return null; }", "int[] f() { return null; }");
        pair(0, "Object[] f() { return null; }", "A[] f() { return null; }");
        pair(36, "long[] f() { return null; }", "int[] `f() { return null; }");
        pair(36, "static A f() { return null; }", "static Object `f() { return null; }");
        House.fine("class A<T> { T f() { return null; } } class B extends A<Error> { Error f() { return null; } }");
        House.due(36, "class A<T> { T f() { return null; } } class B extends A<Error> { Object `f() { return null; } }");
        House.fine("class A { <T> T f() { return null; } } class B extends A { <U> U f() { return null; } }");
        House.fine("class A { <T> T f() { return null; } } class B extends A { Object f() { return null; } }");
        House.due(36, "class A { <T extends Error> T f() { return null; } } class B extends A { Object `f() { return null; } }");
        House.fine("class A { <T extends Error> T f() { return null; } } class B extends A { Error f() { return null; } }");
    }

    /** "throws: without erasure". */
    private static void exceptions() {
        pair(0, "void f() throws Exception { }", "void f() { }");
        pair(36, "void f() { }", "void `f() throws Exception { }");
        pair(0, "void f() { }", "void f() throws Error, RuntimeException, NullPointerException { }");
        pair(36, "void f() throws Error { }", "void `f() throws Throwable { }");
        pair(0, "void f() throws Throwable { }", "void f() throws Exception { }");
        pair(36, "void f() throws Exception { }", "void `f() throws Throwable { }");
        pair(36, "static void f() { }", "static void `f() throws Exception { }");
        told(36, "void f();", "public void `f() throws Exception { }");
        told(0, "void f() throws Exception;", "public void f() throws Exception { }");
        House.fine("class A<T extends Exception> { void f() throws T { } } class B<T extends Exception> extends A<T> { void f() throws T { } }");
        House.due(36, "class A<T extends Exception> { void f() throws T { } } class B<T extends Exception> extends A<T> { void `f() throws Exception { } }");
        House.fine("class A<T extends Exception> { void f() throws T { } } class B extends A<Exception> { void f() throws Exception { } }");
        House.due(36, "class E extends Exception { } class A<T extends Exception> { void f() throws T { } } class B extends A<E> { void `f() throws Exception { } }");
    }

    /** "the same erasure as one of what its kind hangs from without its signature being a subsignature of that". */
    private static void erasures() {
        House.due(36, "class A<T> { void f(T x) { } } class B extends A<Error> { void `f(Object x) { } }");
        House.fine("class A<T> { void f(T x) { } } class B extends A<Error> { void f(Error x) { } }");
        House.fine("class A<T> { void f(T x) { } } class B extends A<Error> { void f(Exception x) { } }");
        House.fine("class A<T> { void f(T x) { } } class B<U> extends A<U> { void f(U x) { } }");
        House.fine("class A<T> { void f(T x) { } } class B<U> extends A<U> { void f(Object x) { } }");
        House.due(36, "class A { void f(Object x) { } } class B<U> extends A { void `f(U x) { } }");
        House.due(36, "class A { void f(Object x) { } } class B extends A { <T> void `f(T x) { } }");
        House.fine("class A { <T> void f(T x) { } } class B extends A { void f(Object x) { } }");
        House.due(36, "class A { <T> void f(T x) { } } class B extends A { <T, U> void `f(T x) { } }");
        House.due(36, "class A<T> { void f(A<Error> x) { } } class B extends A<B> { void `f(A<Object> x) { } }");
        House.due(36, "class A<T> { static void f(A<Error> x) { } } class B extends A<B> { static void `f(A<Object> x) { } }");
        House.fine("class A<T> { private void f(T x) { } } class B extends A<Error> { void f(Object x) { } }");
        House.due(36, "interface I<T> { void f(T x); } abstract class B implements I<Error> { public void `f(Object x) { } }");
        House.due(36, "interface I<T> { void f(T x); } interface J extends I<Error> { void `f(Object x); }");
    }

    /** 37: "a class that isn't abstract with an abstract method that is left". */
    private static void left() {
        House.due(37, "interface I { void f(); } class `A implements I { }");
        House.fine("interface I { void f(); } abstract class A implements I { }");
        House.due(37, "interface I { void f(); } abstract class A implements I { } class `B extends A { }");
        House.due(37, "abstract class A { abstract void f(); } class `B extends A { void f(int x) { } }");
        House.fine("abstract class A { abstract void f(); } class B extends A { void f() { } }");
        House.fine("interface I { void f(); } class A { public void f() { } } class B extends A implements I { }");
        House.due(37, "interface I { void f(); } class A { private void f() { } } class `B extends A implements I { }");
        House.fine("interface I<T> { void f(T x); } class A implements I<Error> { public void f(Error x) { } }");
        House.due(37, "interface I<T> { void f(T x); } class `A implements I<Error> { public void f(Exception x) { } }");
        House.due(37, "class A { void f() { } } abstract class B extends A { abstract void f(); } class `C extends B { }");
        House.fine("class A { void f() { } } abstract class B extends A { abstract void f(); } class C extends B { void f() { } }");
        House.due(37, "interface I { void f(); } interface J extends I { } class `A implements J { }");
    }

    /** 37: "a kind that inherits two of the same signature that can't stand together", "rules of [8.4.8.3] broken ..". */
    private static void meet() {
        House.fine("interface I { void f(); } interface J { void f(); } interface K extends I, J { }");
        House.due(37, "interface I { void f(); } interface J { int f(); } interface `K extends I, J { }");
        House.due(37, "interface I { void f(); } interface J { int f(); } abstract class `K implements I, J { }");
        House.fine("interface I { Object f(); } interface J { Error f(); } interface K extends I, J { }");
        House.due(37, "interface I { Error f(); } interface J { Exception f(); } interface `K extends I, J { }");
        House.fine("interface I { Throwable f(); } interface J { Throwable f(); } interface H { Error f(); } interface K extends I, J, H { }");
        House.due(36, "interface I { void f(); } interface J { int f(); } interface K extends I, J { void `f(); }");
        House.fine("interface I { void f() throws Exception; } interface J { void f(); } interface K extends I, J { }");
        House.due(37, "interface I { void f(); } class A { void f() { } } class `B extends A implements I { }");
        House.due(37, "interface I { void f(); } class A { public int f() { return 1; } } class `B extends A implements I { }");
        House.due(37, "interface I { void f(); } class A { public static void f() { } } class `B extends A implements I { }");
        House.due(37, "interface I { void f(); } class A { public void f() throws Exception { } } class `B extends A implements I { }");
        House.due(37, "interface I { void f(); } interface J extends I { } class A { void f() { } } class `B extends A implements J { }");
        House.fine("interface I { void f(); } abstract class A { abstract void f(); } abstract class B extends A implements I { }");
        House.fine("interface I { void f(); } class A { public final void f() { } } class B extends A implements I { }");
        House.due(37, "class A<T> { void f(T x) { } void f(Error x) { } } class `B extends A<Error> { }");
        House.fine("class A<T> { void f(T x) { } void f(Error x) { } } class B extends A<Exception> { }");
        House.fine("class A<T> { void f(T x) { } void f(Error x) { } } class B extends A<Error> { void f(Error x) { } }");
        House.due(37, "interface I<T> { void f(I<T> x); } interface J { void f(I<Object> x); } abstract class `B implements I<Error>, J { }");
        House.fine("interface I<T> { void f(I<T> x); } interface J { void f(I<Object> x); } abstract class B implements I<Object>, J { }");
        House.due(37, "interface I { <T> void f(T x); } interface J { void f(Object x); } interface `K extends I, J { }");
    }

    /** 37: "one interface by two lists of type arguments [8.1.5] (at its name)". */
    private static void lists() {
        House.due(37, "interface I<T> { } class A implements I<A> { } class `B extends A implements I<B> { }");
        House.fine("interface I<T> { } class A implements I<A> { } class B extends A implements I<A> { }");
        House.due(37, "interface I<T> { } interface J extends I<Error> { } interface `K extends I<Exception>, J { }");
        House.due(37, "interface I<T> { } class A<T> implements I<T> { } class `B<T> extends A<Error> implements I<T> { }");
        House.fine("interface I<T> { } class A<T> implements I<T> { } class B<T> extends A<T> implements I<T> { }");
        House.due(37, "interface I<T> { } class `C extends B { } class B extends A implements I<B> { } class A implements I<A> { }");
    }

    /** Promise 6: "how many methods it has that can be called on it: its own and inherited ones". */
    private static void counts() {
        String text = "interface I { void f(); void g(); } interface J extends I { void f(); } interface K extends I { } interface L extends J, K { } "
            + "class A { private void p() { } static void s() { } void f() { } A() { } } class B extends A { void f() { } static void s() { } } "
            + "abstract class C extends A implements I { public void f() { } } class D extends C { public void g() { } void f(int x) { } } class E { } interface M { }"
            + "interface N { void f(); } interface O extends N, I { }";
        FrontHouse x = House.taken(text);
        int[] want = {2, 2, 2, 2, 3, 2, 3, 4, 0, 0, 1, 3};
        for (int i = 0; i < want.length; i++) {
            House.same("methods of kind " + i, x.kind(i, 6), want[i]);
        }
        House.same("no more kinds", x.kind(want.length, 6), -1);
    }

    public static void main(String[] args) {
        flags();
        results();
        exceptions();
        erasures();
        left();
        meet();
        lists();
        counts();
        House.end("methods that override and are inherited");
    }
}
