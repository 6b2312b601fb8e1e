/** Part II of the document, sentence by sentence: what breaks each rule of a declaration, and what just doesn't. */
public final class DeclarationEdges {
    private static final String[] BUILT_IN = {"Object", "Throwable", "Exception", "Error", "RuntimeException", "ArithmeticException",
        "ArrayIndexOutOfBoundsException", "ArrayStoreException", "ClassCastException", "NegativeArraySizeException", "NullPointerException",
        "ExceptionInInitializerError", "NoClassDefFoundError", "Boolean", "Byte", "Short", "Character", "Integer", "Long", "In", "Out"};

    /** 30: "a kind's name that is there (a built-in one too ..), a var's in its list, a field's in its kind (at the second one)". */
    private static void twice() {
        for (String name : BUILT_IN) {
            House.due(30, "class `" + name + " { }");
            House.due(30, "interface `" + name + " { }");
            House.fine("class A { " + name + " x; }");
        }
        House.due(30, "class A { } class `A { }");
        House.due(30, "class A { } interface `A { } class A { }");
        House.due(33, "class B implements `A { } class A { } interface A { }");
        House.due(30, "class B extends A { } class A { } interface `A { }");
        House.due(30, "class A<T, `T> { }");
        House.due(30, "class A<T, U, `T, T> { }");
        House.due(30, "class A { <T, `T> void f() { } }");
        House.fine("class A<T> { <T> void f() { } <T> void g() { } } class T<A> { } class B<B> { }");
        House.due(30, "class A { int x, `x; }");
        House.due(30, "class A { int x; static A `x; }");
        House.due(30, "class A { int x; void x() { } int y; int z, `y; }");
        House.fine("class A { int x, A; void x() { } void A() { } } class B extends A { int x; }");
        House.fine("interface String { } class Number { } class Iterable { } class Runnable { } class Override { }");
    }

    /** 31: "a type's name, in bodies too, that means none (at it ..)". */
    private static void unknown() {
        String[] at = {"class A extends `B { }", "class A implements `B { }", "interface A extends `B { }", "class A<T extends `B> { }",
            "class A { `B x; }", "class A { static `B[] x; }", "class A { `B f() { } }", "class A { void f(`B x) { } }", "class A { void f(`B... x) { } }",
            "class A { void f() throws `B { } }", "class A { <T extends `B> void f() { } }", "class A { A(`B x) { } }", "class A<T> { A<`B> x; }",
            "class A { void f() { `B x; } }", "class A { void f() { for (`B x : null) ; } }", "class A { void f() { for (`B x = null; ; ) ; } }",
            "class A { void f() { try { } catch (`B x) { } } }", "class A { void f() { Object o = (`B) null; } }", "class A { void f() { Object o = new `B(); } }",
            "class A { void f() { Object o = new `B[1]; } }", "class A { void f() { boolean b = null instanceof `B; } }", "class A { void f() { A.<`B>g(); } }",
            "class A { Object o = new `B[] { }; }"};
        for (String s : at) {
            House.due(31, s);
        }
        House.due(31, "class A<T> { static `T x; }");
        House.due(31, "class A<T> { static `T x; } class T { }");
        House.due(31, "class A<T> { static void f(`T x) { } }");
        House.due(31, "class A<T> { static `T f() { return null; } }");
        House.due(31, "class A<T> { static void f() { Object o = (`T) null; } }");
        House.due(31, "class A<T> { static Object o = (`T) null; }");
        House.due(31, "class A<T> { static <U extends `T> void f() { } }");
        House.fine("class A<T> { T x; T f(T y) { T z = (T) y; return z; } A(T x) { } static <T> T g(T x) { return x; } } class T { }");
        House.fine("class A<T extends B<T>, C> { } class B<T> { }");
        House.due(31, "class A<T extends `B<T>, B> { } class B<T> { }");
        House.due(31, "class A { `T x; <T> void f() { } }");
        House.due(31, "class A { <T> void f() { } void g(`T x) { } }");
        House.due(31, "class A<T> { } class B extends A<`T> { }");
    }

    /** 31: "a kind with vars without type arguments, or with another number, or type arguments behind what has no vars". */
    private static void numbers() {
        House.due(31, "class A<T> { `A x; }");
        House.due(31, "class A<T> { `A[] x; }");
        House.fine("class A<T> { A<T> x; }");
        House.due(31, "class A<T> { `A<T, T> x; }");
        House.due(31, "class A<T, U> { `A<T> x; }");
        House.fine("class A<T, U> { A<U, T> x; }");
        House.due(31, "class A { `A<A> x; }");
        House.due(31, "class A { `Object<A> x; }");
        House.due(31, "class A<T> { `T<A<T>> x; }");
        House.due(31, "class A<T> { `A<B, B> x; }");
        House.due(31, "class A<T> { A<`B> x; }");
        House.due(31, "class A<T> { void f() { Object o = new `A(); } }");
        House.due(31, "class A<T> { void f() { boolean b = null instanceof `A; } }");
        House.due(31, "class A<T> { } class B extends `A { }");
        House.fine("class A<T> { static int x; int y = A.x; }");
    }

    /** 33: "extends, implements of what isn't a class, an interface, as it must be; of a final class, a var; an interface twice ..". */
    private static void hangs() {
        House.due(33, "class A extends `B { } interface B { }");
        House.due(33, "class A implements `B { } class B { }");
        House.due(33, "interface A extends `B { } class B { }");
        House.due(33, "class A implements `Object { }");
        House.due(33, "interface A extends `Object { }");
        House.fine("class A extends Object { } class B extends Error { } class C extends Throwable { }");
        for (int i = 13; i < BUILT_IN.length; i++) {
            House.due(33, "class A extends `" + BUILT_IN[i] + " { }");
        }
        for (int i = 0; i < 13; i++) {
            House.fine("class A extends " + BUILT_IN[i] + " { }");
        }
        House.due(33, "class A extends `B { } final class B { }");
        House.fine("class A extends B { } abstract class B { }");
        House.due(33, "class A<T> extends `T { }");
        House.due(33, "class A<T> implements `T { }");
        House.due(33, "interface A<T> extends `T { }");
        House.due(33, "class A implements I, `I { } interface I { }");
        House.due(33, "class A implements I, J, `I { } interface I { } interface J { }");
        House.due(33, "interface A extends I, `I { } interface I { }");
        House.due(33, "class A implements I<A>, `I<Object> { } interface I<T> { }");
        House.fine("class A implements I, J { } interface I { } interface J extends I { }");
        House.fine("class A extends B implements I { } class B implements I { } interface I { }");
    }

    /** 33: "a kind that hangs from itself [8.1.4], [9.1.3] (at the name there)". */
    private static void rounds() {
        House.due(33, "class A extends `A { }");
        House.due(33, "interface A extends `A { }");
        House.due(33, "class A extends `B { } class B extends A { }");
        House.due(33, "class A extends `B { } class B extends C { } class C extends A { }");
        House.due(33, "class D extends A { } class A extends `B { } class B extends A { }");
        House.due(33, "interface A extends J, `B { } interface B extends A { } interface J { }");
        House.due(33, "class A<T> extends `A<T> { }");
        House.fine("class A<T> { } class B extends A<B> { } class C extends A<A<C>> { }");
        House.fine("interface A<T> { } class B implements A<B> { }");
        House.due(33, "class A<T> extends `Throwable { }");
        House.due(33, "class A<T> extends `Error { }");
        House.due(33, "class A<T> extends `B { } class B extends Exception { }");
        House.fine("class A<T> extends B { } class B { }");
        House.fine("class A extends Exception { <T> void f() { } }");
        House.due(33, "class A<`T extends T> { }");
        House.due(33, "class A<`T extends U, U extends T> { }");
        House.due(33, "class A<T extends U, `U extends U> { }");
        House.due(33, "class A<V extends T, `T extends U, U extends T> { }");
        House.due(33, "class A { <`T extends T> void f() { } }");
        House.fine("class A<T extends U, U extends V, V> { <W extends T> void f() { } }");
        House.fine("class A<T extends A<T>> { } interface B<T extends B<T, U>, U extends B<T, U>> { }");
    }

    private static void modifiers() {
        String[] all = {"public", "protected", "private", "static", "abstract", "final"};
        for (String m : all) {
            House.due(34, m.equals("private") || m.equals("protected") || m.equals("static") ? "`" + m + " class A { }" : m + " `" + m + " class A { }");
            boolean bad = m.equals("abstract");
            House.due(34, bad ? "class A { `" + m + " int x; }" : "class A { " + m + " `" + m + " int x; }");
            bad = m.equals("static") || m.equals("abstract") || m.equals("final");
            House.due(34, bad ? "class A { `" + m + " A() { } }" : "class A { " + m + " `" + m + " A() { } }");
            House.due(34, m.equals("abstract") ? "abstract class A { abstract `abstract void f(); }" : "class A { " + m + " `" + m + " void f() { } }");
            bad = !m.equals("public") && !m.equals("abstract");
            House.due(34, bad ? "interface A { `" + m + " void f(); }" : "interface A { " + m + " `" + m + " void f(); }");
            bad = !m.equals("public") && !m.equals("abstract");
            House.due(34, bad ? "`" + m + " interface A { }" : m + " `" + m + " interface A { }");
        }
        String[] access = {"public", "protected", "private"};
        for (String a : access) {
            for (String b : access) {
                House.due(34, "class A { " + a + " `" + b + " int x; }");
                House.due(34, "class A { " + a + " static `" + b + " void f() { } }");
                House.due(34, "class A { " + a + " `" + b + " A() { } }");
            }
            House.fine("class A { " + a + " static final int x = 1; " + a + " final void f() { } static final " + a + " void g() { } " + a + " A() { } }");
        }
        House.fine("public abstract class A { } public final class B { } public abstract interface I { public abstract void f(); }");
        House.due(34, "abstract `final class A { }");
        House.due(34, "final `abstract class A { }");
        String[] not = {"private", "static", "final"};
        for (String n : not) {
            House.due(34, "abstract class A { abstract `" + n + " void f(); }");
            House.due(34, "abstract class A { " + n + " `abstract void f(); }");
        }
        House.fine("abstract class A { protected abstract void f(); abstract public void g(); private static final void h() { } }");
    }

    /** 34: "a method with a body in an interface, or with abstract; without one in a class without abstract (at its name); ..". */
    private static void methodBodies() {
        House.due(34, "interface A { void `f() { } }");
        House.due(34, "interface A { public abstract void `f() { } }");
        House.due(34, "abstract class A { abstract void `f() { } }");
        House.due(34, "class A { void `f(); }");
        House.due(34, "abstract class A { void `f(); }");
        House.due(34, "class A { abstract void `f(); }");
        House.due(34, "final class A { abstract void `f(); }");
        House.fine("abstract class A { abstract void f(); void g() { } } interface B { void f(); }");
        House.due(34, "interface A { int `x; }");
        House.due(34, "interface A { int `x = 1; }");
        House.due(34, "interface A { public int `x = 1; }");
        House.due(34, "interface A { void f(); A `x, y; }");
        House.due(34, "class A { `B() { } }");
        House.due(34, "class A { A() { } `a() { } }");
        House.fine("class A { A() { } void A() { } A A; }");
    }

    /** "of 30, 31, 33, 34; if there is none, of 32, 35, 38; if there is none, of 36, 37", "at one place the least number". */
    private static void order() {
        House.due(31, "class A<T extends Error> { A<Object> a; void f() { } void f() { } `B b; }");
        House.due(34, "class A { void f() { } void f() { } void `g(); }");
        House.due(35, "interface I { void f(); } class A implements I { void g() { } void `g() { } }");
        House.due(32, "class A<T extends Error> { A<`Object> a; void f() { } void f() { } }");
        House.due(38, "class A { void f() throws `A { } void g() { } void g() { } }");
        House.due(30, "class A { int x, `x; B b; }");
        House.due(31, "class A { `B b; int x, x; }");
        House.due(30, "class `Object extends B { }");
        House.due(34, "interface A { int `x, x; }");
        House.due(30, "class A<T, `T> extends T { }");
        House.due(31, "class A extends `B<A> { } class B { }");
        House.due(31, "class A<T> { } class B<T> extends `A { }");
    }

    /** 32: "a type argument that isn't within its var's bound [4.5] (at its first token)". */
    private static void bounds() {
        String a = "class A<T extends Error> { } ";
        House.fine(a + "class B { A<Error> x; A<NoClassDefFoundError> y; }");
        House.due(32, a + "class B { A<`Object> x; }");
        House.due(32, a + "class B { A<`Throwable> x; }");
        House.due(32, a + "class B { A<`Error[]> x; }");
        House.due(32, a + "class B { A<`int[]> x; }");
        House.due(32, a + "class B extends A<`B> { }");
        House.due(32, a + "class B<T> { A<`T> x; }");
        House.fine(a + "class B<T extends Error> { A<T> x; } class C<U extends T, T extends Error> extends A<U> { }");
        House.due(32, a + "class B<T extends A<`T>> { }");
        House.due(32, a + "class B { void f() { Object o = new A<`B>(); } }");
        House.due(32, a + "class B { void f() { Object o = (A<`B>) null; } }");
        House.due(32, a + "class C<T> { } class B { C<A<`B>> x; }");
        House.due(32, a + "class B { <T> void f() { this.<A<`B>>f(); } }");
        House.due(43, a + "class B { <T extends Error> void f() { this.<B>`f(); } }");
        House.due(32, "class A<T extends U, U> { A<Error, Throwable> x; A<`Throwable, Error> y; }");
        House.due(32, "class A<T, U extends T> { A<Throwable, Error> x; A<Error, `Throwable> y; }");
        House.fine("class A<T extends A<T>> { } class B extends A<B> { A<B> x; }");
        House.due(32, "class A<T extends A<T>> { A<`A<T>> x; }");
        House.due(32, "class A<T extends A<T>> { } class B extends A<B> { } class C extends A<B> { A<B> y; A<`C> x; }");
        House.fine("interface I<T> { } class A<T extends I<T>> { } class B implements I<B> { A<B> x; }");
        House.due(32, "interface I<T> { } class A<T extends I<T>> { } class B implements I<Object> { A<`B> x; }");
        House.due(32, "class A<T extends Integer> { A<Integer> x; A<`Byte> y; }");
    }

    /** 35: "two methods, two constructors of a kind with the same signature, or the same erasure of it [8.4.2]". */
    private static void twins() {
        House.due(35, "class A { void f() { } int `f() { return 1; } }");
        House.due(35, "class A { void f() { } static void `f() { } }");
        House.fine("class A { void f() { } void f(int x) { } void f(long x) { } void f(int x, int y) { } void f(int[] x) { } void f(Object x) { } }");
        House.due(35, "class A { void f(int[] x) { } void `f(int... x) { } }");
        House.due(35, "class A { void f(int x[]) { } void `f(int[] x) { } }");
        House.fine("class A { void f(int[] x) { } void f(int[]... x) { } }");
        House.due(35, "class A<T> { void f(T x) { } void `f(Object x) { } }");
        House.fine("class A<T extends Error> { void f(T x) { } void f(Object x) { } }");
        House.due(35, "class A<T extends Error> { void f(T x) { } void `f(Error x) { } }");
        House.due(35, "class A<T> { void f(A<T> x) { } void `f(A<Object> x) { } }");
        House.due(35, "class A { <T> void f(T x) { } <U, V> void `f(U x) { } }");
        House.due(35, "class A { <T> void f(T x) { } void `f(Object x) { } }");
        House.fine("class A { <T extends Error> void f(T x) { } <T> void f(T x) { } }");
        House.due(35, "class A { A() { } `A() { } }");
        House.due(35, "class A<T, U> { A(T x) { } `A(U x) { } }");
        House.fine("class A { A() { } A(int x) { } void A() { } }");
        House.due(35, "interface A { void f(); void `f(); }");
        House.due(35, "class A { void f() { } void g() { } void `f() { } void f() { } }");
    }

    /** 38: "what stands behind throws, in a catch is not Throwable or below it (a var below it may stand behind throws; at it)". */
    private static void thrown() {
        House.fine("class A { void f() throws Throwable { } void g() throws Exception, Error { } }");
        House.due(38, "class A { void f() throws `Object { } }");
        House.due(38, "class A { void f() throws Error, `A { } }");
        House.due(38, "class A { A() throws `Integer { } }");
        House.due(38, "interface A { void f() throws `A; }");
        House.fine("class A<T extends Error> { void f() throws T { } <U extends Throwable, V extends U> void g() throws U, V { } }");
        House.due(38, "class A<T> { void f() throws `T { } }");
        House.due(38, "class A { <T extends A> void f() throws `T { } }");
        House.fine("class A { void f() { try { } catch (Throwable e) { } } }");
        House.due(38, "class A { void f() { try { } catch (`Object e) { } } }");
        House.due(38, "class A { void f() { try { } catch (Error e) { } catch (`A e) { } } }");
        House.due(38, "class A<T extends Error> { void f() { try { } catch (`T e) { } } }");
    }

    public static void main(String[] args) {
        bounds();
        twins();
        thrown();
        twice();
        unknown();
        numbers();
        hangs();
        rounds();
        modifiers();
        methodBodies();
        order();
        House.end("declarations");
    }
}
