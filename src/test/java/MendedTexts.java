/** What was mended when the document was gone through once more: each with what is due, and what stands beside it. */
public final class MendedTexts {

    private static void runs(String text, long... puts) {
        FrontHouse x = House.taken(text);
        House.same(text + "\n   run", x.run(5000, 2000), 0);
        House.same(text + "\n   entries", x.about(4), puts.length);
        for (int i = 0; i < puts.length; i++) {
            House.same(text + "\n   entry " + i, x.out(i, 1), puts[i]);
        }
    }

    /** [15.12.2.5]: of several abstract methods with one signature a call throws what each of them tells. */
    private static void thrownByEach() {
        String kinds = "class X extends Exception { } class Y extends X { } class Z extends Exception { } ";
        String open = kinds + "interface I { void f() throws X; } interface J { void f() throws ";
        House.fine(kinds + "interface I { void f() throws X; } interface J { void f(); } "
            + "abstract class C implements I, J { void g() { f(); } }");
        House.fine(kinds + "interface J { void f(); } interface I { void f() throws X; } "
            + "interface K extends I, J { } class C { void g(K k) { k.f(); } }");
        House.fine(open + "Y; } abstract class C implements I, J { void g() throws Y { f(); } }");
        House.due(63, open + "Y; } abstract class C implements I, J { void g() throws Z { `f(); } }");
        House.due(63, open + "X; } abstract class C implements I, J { void g() throws Y { `f(); } }");
        House.fine(open + "Z; } abstract class C implements I, J { void g() { f(); } }");
        House.fine(open + "Exception; } abstract class C implements I, J { void g() throws X { f(); } }");
        House.due(63, open + "Y; } class C { void g(I i) throws Y { i.`f(); } }");
        House.due(64, open + "Z; } abstract class C implements I, J { void g() { try { f(); } catch (`X e) { } } }");
        House.fine(kinds + "interface I<E extends Exception> { void f() throws E; } interface J { void f() throws Y; } "
            + "interface K extends I<X>, J { } class C { void g(K k) throws Y { k.f(); } }");
        House.due(63, kinds + "interface I<E extends Exception> { void f() throws E; } interface J { void f() throws Y; } "
            + "interface K extends I<X>, J { } class C { void g(K k) { k.`f(); } }");
        House.fine(kinds + "interface I { <T> void f(T t) throws X; } interface J { <U> void f(U u); } "
            + "interface K extends I, J { } class C { void g(K k) { k.<C>f(null); } }");
        House.due(63, kinds + "interface I<T> { void f(T... x) throws X; void f(Long[] x); } class C { void g(I<Long> i) { i.`f(); } }");
        House.due(63, kinds + "interface I { void f() throws X; void f(int x); } class C { void g(I i) { i.`f(); } }");
    }

    /** [8.4.2]: the erasure of a signature as a member, whose vars have the bounds that the type arguments make. */
    private static void erasedAsMember() {
        String above = "class A { } class P<X> { <T extends X> int f(T t) { return 1; } } ";
        runs(above + "class C extends P<A> { int f(A a) { return 2; } } class Main { static void main() { "
            + "P<A> p = new C(); Out.put(p.<A>f(new A())); C c = new C(); Out.put(c.f(new A())); } }", 2, 2);
        House.due(36, above + "class C extends P<A> { long `f(A a) { return 2; } }");
        House.fine(above + "class C extends P<A> { long f(Error a) { return 2; } }");
        House.due(36, above + "class C extends P<A> { long `f(Object a) { return 2; } }");
        House.same("methods of C", House.taken(above + "class C extends P<A> { int f(A a) { return 2; } }").kind(2, 6), 1);
        House.same("methods of C", House.taken(above + "class C extends P<A> { int f(Error a) { return 2; } }").kind(2, 6), 2);
        House.fine("class A { } class P<X> { <T extends X> T f() { return null; } } class C extends P<A> { A f() { return null; } }");
        House.due(36, "class A { } class P<X> { <T extends X> T f() { return null; } } class C extends P<A> { Object `f() { return null; } }");
        House.fine("class A { } class P<X> { <S extends X, T extends S> void f(T[] t) { } } class C extends P<A> { void f(A[] t) { } }");
        House.same("methods of C", House.taken("class A { } class P<X> { <S extends X, T extends S> void f(T[] t) { } } "
            + "class C extends P<A> { void f(A[] t) { } }").kind(2, 6), 1);
    }

    /** What serves is never abstract, wherever it stands in its class. */
    private static void servedByWhole() {
        String main = " class B extends A<Integer> { } class Main { static void main() { A<Integer> a = new B(); a.f(5); new B().f(6); } }";
        runs("abstract class A<T> { abstract void f(T t); void f(Integer i) { Out.put((int) i); } }" + main, 5, 6);
        runs("abstract class A<T> { void f(Integer i) { Out.put((int) i); } abstract void f(T t); }" + main, 5, 6);
        runs("abstract class A<T> { abstract void f(Integer i); void f(T t) { Out.put(7); } }" + main, 7, 7);
        runs("abstract class A<T> { void f(T t) { Out.put(7); } abstract void f(Integer i); }" + main, 7, 7);
        FrontHouse x = House.taken("abstract class A<T> { abstract void f(T t); void f(Integer i) { } }" + main);
        House.same("serves(1, 0)", x.serves(1, 0), 1);
        House.same("serves(1, 1)", x.serves(1, 1), 1);
        House.same("serves(0, 0)", x.serves(0, 0), -1);
        House.same("its methods", x.kind(1, 6), 1);
    }

    /** [8.4.8.4]: two abstract ones are both inherited, and only their results must fit; one with a body can't stand beside another one. */
    private static void inheritedTogether() {
        String face = "interface I { void f(); } ";
        House.fine(face + "abstract class A { abstract void f(); } abstract class B extends A implements I { }");
        House.fine(face + "abstract class A { public abstract void f() throws Exception; } abstract class B extends A implements I { }");
        House.due(37, face + "abstract class A { public abstract int f(); } abstract class `B extends A implements I { }");
        House.due(37, face + "class A { void f() { } } abstract class `B extends A implements I { }");
        House.due(37, face + "class A { public void f() throws Exception { } } abstract class `B extends A implements I { }");
        House.due(36, face + "abstract class A { abstract void f(); } abstract class B extends A implements I { abstract void `f(); }");
        House.due(37, "class A { } class P<T> { public <V> void f(T t) { } } interface I { void f(A a); } abstract class `C extends P<A> implements I { }");
        House.due(37, "class K { <V extends K> void f(V v) { } } abstract class L<T> extends K { abstract int f(T t); } abstract class `M extends L<K> { }");
        House.fine("class K { <V extends K> void f(V v) { } } abstract class L<T> extends K { abstract int f(T t); } abstract class M extends L<Error> { }");
    }

    /** [15.12.2.5]: abstract ones must be told with the same erasures of their formals, one with a body needn't. */
    private static void toldAlike() {
        House.due(44, "interface I<T> { void f(T t); void f(Integer i); } class A { void g(I<Integer> i) { i.`f(1); } }");
        House.fine("interface I<T> { void f(T t); void f(Integer i); } class A { void g(I<Long> i) { i.f(1); } }");
        House.fine("interface I<T> { void f(T t); } interface J<T> { void f(T t); } interface K extends I<Integer>, J<Integer> { } "
            + "class A { void g(K k) { k.f(1); } }");
        House.due(44, "interface I<T> { void f(T t); } interface J { void f(Integer t); } interface K extends I<Integer>, J { } "
            + "class A { void g(K k) { k.`f(1); } }");
        House.fine("abstract class B<T> { abstract void f(T t); void f(Integer i) { } } class A { void g(B<Integer> b) { b.f(1); } }");
    }

    /** [14.22]: what can't be reached has no end, and no jump in it counts. */
    private static void unreached() {
        String kinds = "class Z extends Exception { } class M { static void t() throws Z { } void m() { ";
        House.due(60, kinds + "try { t(); } finally { while (true) { } `; } } }");
        House.due(60, kinds + "try { t(); } finally { return; `; } } }");
        House.due(60, kinds + "try { t(); } finally { L: for (;;) { while (false) `break L; } } } }");
        House.due(60, kinds + "try { t(); } finally { L: for (;;) { throw null; `break L; } } } }");
        House.due(63, kinds + "try { `t(); } finally { L: for (;;) { break L; } } } }");
        House.due(60, "class M { void m() { for (;;) { for (;;) { } `break; } } }");
    }

    /** II, 33: what stands behind extends, implements is told by its name, whatever its type arguments are. */
    private static void hangsByName() {
        String face = "interface I<T> { } ";
        House.due(33, face + "class A implements I<Object>, `I<Foo> { }");
        House.due(33, face + "class A implements I<Object>, `I<I<Object>> { }");
        House.due(31, face + "class A implements I<`Foo>, I<Object> { }");
        House.due(33, face + "interface J extends I<Object>, `I<Foo> { }");
        House.due(33, face + "interface K { } class A implements I<Object>, K, `I<Foo[]> { }");
        House.due(31, face + "class A implements I<Object>, `I { }");
        House.due(31, face + "class A implements `I, I<Object> { }");
        House.due(31, face + "interface J<T> { } class A implements I<Object>, J<`Foo> { }");
        House.due(33, face + "class A extends `I<Foo> { }");
        House.due(33, "class B<T> { } class A implements `B<Foo> { }");
        House.due(33, "class B<T> { } interface A extends `B<Foo> { }");
        House.due(33, "final class B<T> { } class A extends `B<Foo> { }");
        House.due(31, "class B<T> { } class A extends B<`Foo> { }");
        House.due(33, "class A<T> extends `A<Foo> { }");
        House.due(33, "class A<T> extends `B<Foo> { } class B<T> extends A<T> { }");
        House.due(33, "class B<T> extends `A { } class A extends B { }");
        House.due(31, "class A extends `B { } class B<T> extends A { }");
        House.due(33, "class A<T> extends `B<Foo> { } class B<T> extends Exception { }");
        House.due(31, "class A<T> extends `T<Foo> { }");
        House.due(33, "class A<T> extends `T { }");
    }

    /** I: an initializer is a block, or static and a block [8.6], [8.7]; no other modifiers stand ahead of its {. */
    private static void bracesOfInitializers() {
        String[] mods = {"public", "protected", "private", "abstract", "final", "public static", "static final", "static static",
            "static public", "final static", "abstract public"};
        for (String m : mods) {
            House.due(1, "class A { " + m + " `{ } }");
            House.due(1, "class A { int x; " + m + " `{ } }");
            House.due(1, "interface A { " + m + " `{ } }");
            House.due(2, "class A { " + m + " `class B { } }");
            House.due(2, "interface A { " + m + " `interface B { } }");
        }
        House.due(2, "class A { `{ } }");
        House.due(2, "class A { static `{ } }");
        House.due(2, "class A { ; static `{ } }");
        House.due(2, "class A { void f() { } `{ } }");
        House.due(1, "interface A { `{ } }");
        House.due(1, "interface A { static `{ } }");
    }

    /** [16.2.15]: behind a try is unassigned what is so behind its block, its catches and its finally, whether that ends or not. */
    private static void assignedAheadOfStuckFinally() {
        String loop = "class A { void m(boolean b) { final int x; while (b) ";
        House.due(62, loop + "{ try { x `= 1; } finally { return; } } } }");
        House.due(62, loop + "{ try { x `= 1; } finally { } } } }");
        House.due(62, loop + "{ try { x `= 1; continue; } finally { return; } } } }");
        House.due(62, loop + "{ try { x `= 1; } catch (Error e) { } finally { while (true) { } } } } }");
        House.due(62, loop + "{ try { } catch (Error e) { x `= 1; } finally { throw null; } } } }");
        House.due(62, loop + "{ try { try { x `= 1; } finally { return; } } finally { return; } } } }");
        House.due(62, loop + "{ try { } finally { try { x `= 1; } finally { return; } } } } }");
        House.fine(loop + "{ try { x = 1; break; } finally { return; } } } }");
        House.fine(loop + "{ try { x = 1; return; } finally { return; } } } }");
        House.fine(loop + "{ try { x = 1; throw null; } finally { return; } } } }");
        House.due(62, "class A { void m(boolean b) { final int x; do { try { x `= 1; continue; } finally { return; } } while (b); } }");
        House.due(62, "class A { void m(int[] a) { final int x; for (int i : a) try { x `= 1; } finally { return; } } }");
        House.due(62, "class A { void m(boolean b) { final int x; for (; b;) try { x `= 1; } finally { return; } } }");
        House.fine("class A { void m(boolean b) { int x; while (b) { try { x = 1; continue; } finally { return; } } } }");
        House.due(62, "class A { void m(boolean b) { final int x; L: { try { x = 1; break L; } finally { if (b) return; } } x `= 2; } }");
        House.due(62, "class A { void m(boolean b) { final int x; L: { if (b) break L; try { x = 1; break L; } finally { return; } } x `= 2; } }");
        House.fine("class A { int m(boolean b) { int x; L: { if (b) { x = 3; break L; } try { break L; } finally { return 1; } } return x; } }");
        House.due(62, "class A { final int x; A(boolean b) { while (b) { try { x `= 1; } finally { throw null; } } x = 2; } }");
        House.fine("class A { final int x; A() { try { return; } finally { throw null; } } }");
    }

    /** [16.1.5]: only of a conditional that is a boolean it is asked what is assigned when it is true, and when it is false. */
    private static void conditionalsThatAreBoxes() {
        String head = "class A { void m(boolean a, Boolean c) { int x; if (a || (x = 1) == 2 ? false : ";
        House.fine(head + "false) x++; } }");
        House.fine(head + "(x = 2) > 1) x++; } }");
        House.due(61, head + "null) `x++; } }");
        House.due(61, "class A { void m(boolean a, Boolean c) { int x; if (a || (x = 1) == 2 ? null : false) ; else `x++; } }");
    }

    /** [5.2]: a constant goes narrowed from short, char, int; no narrowing begins at byte [5.1.3]. */
    private static void constantsOfBytes() {
        String fin = "class A { void m() { final byte b = 1; ";
        String[] wrong = {"Short s = `(byte) 1", "Character c = `(byte) 65", "char c = `(byte) 65", "Character c = `(byte) 0", "Integer i = `(byte) 1",
            "Long l = `(byte) 1", "char[] c = { `(byte) 1 }", "Byte b = `(byte) 1 + 127", "Short s = `(short) 1 + 32767", "Byte b = `1L",
            "Integer i = `(short) 1", "Integer i = `'a'", "Character c = `-1", "Byte b = `(char) 128", "boolean b = `1"};
        for (String w : wrong) {
            House.due(w.indexOf("+") < 0 ? 41 : 0, w.indexOf("+") < 0 ? "class A { " + w + "; }" : "class A { }");
        }
        House.due(41, "class A { Byte b = (byte) 1 `+ 127; }");
        House.due(41, "class A { Short s = (short) 1 `+ 32767; }");
        String[] right = {"Byte b = (byte) 1", "short s = (byte) 1", "Short s = 'a'", "Character c = (short) 65", "char c = (short) 65", "Byte b = (short) 1",
            "byte b = 1", "byte b = 'a'", "byte b = (short) 1", "Short s = 1", "Short s = (short) 1", "Character c = 65", "char c = 'a'", "int i = (byte) 1",
            "long l = (byte) 1", "Object o = (byte) 1", "Byte b = (byte) 1 + 126", "char c = (char) (byte) 65", "Short s = (short) (byte) 1"};
        for (String r : right) {
            House.fine("class A { " + r + "; }");
        }
        House.due(41, fin + "Short s = `b; } }");
        House.due(41, fin + "char c = `b; } }");
        House.due(41, fin + "Character c; c = `b; } }");
        House.fine(fin + "Short s = b + 0; char c = b + 0; Character d = +b; short t = b; Byte e = b; } }");
        House.due(41, "class A { char m() { return `(byte) 1; } }");
        House.due(41, "class A { Short m() { return `(byte) 1; } }");
        House.due(50, "class A { void m(char c) { switch (c) { case `(byte) 65: } } }");
        House.due(50, "class A { void m(Character c) { switch (c) { case `(byte) 65: } } }");
        House.due(50, "class A { void m(Short c) { switch (c) { case `(byte) 1: } } }");
        House.fine("class A { void m(Byte c, short d, int e, char f) { switch (c) { case (byte) 1: case (short) 2: case 3: case 'a': } "
            + "switch (d) { case (byte) 1: } switch (e) { case (byte) 1: } switch (f) { case (short) 1: } } }");
        House.due(50, "class A { void m(Integer c) { switch (c) { case `(byte) 1: } } }");
        FrontHouse x = House.taken("class A{byte d='a';Short s='a';Byte b=1;char c=65;Byte e=(short)1;short t=(byte)1;}");
        int[] conversions = {2, 8, 8, 2, 8, 2, 1, 2};
        for (int i = 0; i < conversions.length; i++) {
            House.same("conversion " + i, x.expression(i, 2), conversions[i]);
        }
        House.same("expressions", x.count(3), conversions.length);
    }

    /** A field in an interface is static and final, whether it says so or not [9.3], though it is 34. */
    private static void fieldsOfInterfaces() {
        House.due(31, "interface I<T> { `T x; }");
        House.due(31, "interface I<T> { I<`T> x; }");
        House.due(31, "class T { } interface I<T> { `T x; }");
        House.due(31, "interface I<T> { public `T[] x = null; }");
        House.due(34, "interface I<T> { `static T x; }");
        House.due(34, "interface I<T> { int `x; T y; }");
        House.due(34, "interface I<T> { int `x = (int) (Object) (T) null; }");
        House.due(34, "class T { } interface I { T `x; }");
        House.due(34, "interface I<T> { T m(); T n(T t); int `x; }");
        House.due(31, "interface I<T> { T m(); <T> T n(); `T x; }");
        House.due(31, "class A<T> { static `T x; }");
        House.fine("class A<T> { T x; }");
        String twenty = "int " + House.row("a", "", ", ", 20);
        House.due(3, "interface I { " + twenty + ", `z; }");
        House.due(3, "interface I { " + twenty + "; int `z; }");
        House.due(34, "interface I { int `" + twenty.substring(4) + ", z = 1; }");
        House.fine("class I { " + twenty + ", z; }");
    }

    /** IV, 61: constructors and objects' initial values read static final fields, too, as the class's start leaves them. */
    private static void readsOfStaticFinals() {
        House.due(61, "class A { A() { int z = `x; } static final int x; }");
        House.due(61, "class A { int y = `x; static final int x; }");
        House.due(61, "class A { int y = this.`x; static final int x; }");
        House.due(61, "class A { A(int q) { } A() { this(`x); } static final int x; }");
        House.due(61, "class A { A(int q) { } A() { super(); q(`x); } void q(int p) { } static final int x; }");
        House.due(61, "class A { A(int q) { } A() { this(1); int y = this.`x; } static final int x; }");
        House.due(61, "class A { static final int `x; A() { int z = x; } }");
        House.due(61, "class A { int m() { return x; } static int n() { return x; } int y = A.x; static final int `x; }");
        House.due(61, "class A { A() { int z = new A().x; } static final int `x; }");
        House.due(61, "class A { A(boolean b) { int z = b ? 1 : `x; } static final int x; static int y = A.n(true) ? 1 : (x = 2); static boolean n(boolean b) { return b; } }");
        House.fine("class A { static int y = x = 5; static final int x; A() { int z = x; } }");
        House.fine("class A { int y = x; static int z = x = 5; static final int x; }");
        House.fine("class A { int y = this.x; static int z = n(x = 5); static final int x; static int n(int p) { return x; } A() { this(x); } A(int p) { y = x; } }");
        House.fine("class A { final int y; static final int q; int z = y = q; static int r = q = 1; }");
        House.due(61, "class A { `A() { } final int y; static final int q; static int r = q = 1; }");
        House.due(62, "class A { A() { y = 1; y `= 2; } final int y; static final int q; static int r = q = 1; }");
        House.due(61, "class A { static final int `x; static int z = x; A() { int y = x; } }");
        House.due(48, "class A { A() { x `= 1; } static final int x; }");
    }

    /** [15.29]: that it doesn't end abruptly is asked of a constant as a whole (issue 32); brackets hold constants alone. */
    private static void constantsAsAWhole() {
        String[] yes = {"true?1:1/0", "false?1/0:1", "true||1/0==0?1:2", "false&&1/0==0?2:1", "(true?1:1/0)", "true?1:1%0", "((true)?(1):1/0)",
            "true?1:(int)1/0", "(true?1L:1/0L)==1?1:2", "!(false&&1/0==0)?1:2", "true?true?1:1/0:1/0", "false||(true||1/0==0)?1:2",
            "true?1:true?1/0:2", "true?1:1/0>0&&true?2:3", "true?1:~+-1/0", "true?1:1<<1/0", "true||!!(true&&true)&&1%0!=0?1:2", "1+(true?0:0/0)",
            "true||false&&1/0==0?1:1/0", "(int)(true?1L:1L/0)", "true?1:(byte)-1/0", "true?1:1/0==0?1/0:2/0", "false&&!!false&&1/0==0?2:1"};
        String[] no = {"1/0", "true?1/0:1", "false?1:1/0", "true&&1/0==0?1:2", "false||1/0==0?1:2", "true||(1/0==0)?1:2", "true?1:(1/0)", "true?1:-(1/0)",
            "true?1:(int)(1/0)", "true?1:(Integer)1", "true?1:(int)(Integer)1", "true?1:i/0", "1/0==0||true?1:2", "1/0==0&&false?1:2", "1/0==0?1:1",
            "(true?1:1/0)/0", "true?1:(1/0)+1", "true?1:(true?1/0:1)", "-1/0", "true?1:(true&&1/0==0)?1:2", "1+1/0", "true||(true?1/0==0:true)?1:2",
            "true?1:-(-1/0*0)==0?2:1", "true?1:((1/0))", "true?1:(int)-1/i", "true|1/0==0?1:2", "false&1/0==0?2:1", "true?1:(-1/0)*0"};
        String label = "class A { void m(int i, int x) { switch (x) { case ";
        for (String e : yes) {
            House.fine(label + e + ": } } }");
            House.fine("class A { byte b = " + e + "; int m() { while (1 == (" + e + ")) { } } }");
            House.due(60, "class A { void m() { while (1 == (" + e + ")) { } `int x; } }");
            House.due(50, "class A { static final int K = " + e + "; void m(int i) { switch (i) { case 1: case `K: } } }");
        }
        for (String e : no) {
            House.same(e, House.judged(label + e + ": } } }").fault(0), 50);
            House.same(e, House.judged("class A { int i; byte b = " + e + "; }").fault(0), 41);
            House.fine("class A { void m(int i) { while (1 == (" + e + ")) { } int x; } }");
        }
        FrontHouse x = House.taken("class A{static final boolean b=true||1/0==0;static final int c=b?2:1/0;}");
        StringBuilder all = new StringBuilder();
        for (int i = 0; i < x.count(3); i++) {
            all.append(i == 0 ? "" : " ").append(x.expression(i, 0)).append('/').append(x.expression(i, 3)).append('/').append(x.constant(i));
        }
        House.same("constants", all.toString(), "31/1/1 35/1/1 37/1/1 38/0/0 39/1/0 40/0/0 42/1/0 63/1/1 64/1/2 65/1/2 67/1/1 68/0/0 69/1/0");
        House.same("how many", x.count(6), 10);
        House.same("run", ran("class Main{static final int c=true?5:1/0;int i=false?1/0:6;static void main(){Out.put(c);Out.put(new Main().i);Out.put(true||1/0==0);}}"), "0 1/5 1/6 0/1");
    }

    /** How a run ended and what it put. */
    private static String ran(String text) {
        FrontHouse x = House.taken(text);
        StringBuilder all = new StringBuilder();
        all.append(x.run(1000, 1000)).append(x.about(1) != 0 ? " by " + x.about(1) : "");
        for (int i = 0; i < x.about(4); i++) {
            all.append(' ').append(x.out(i, 0)).append('/').append(x.out(i, 1));
        }
        return all.toString();
    }

    /** III, ?: by [15.25]: a call counts by its method's result ahead of its own type arguments (issue 31). */
    private static void callsThatCountByTheirMethod() {
        String head = "class A<K>{<T>T id(T t){return t;}<T extends Integer>T in(T t){return t;}<T,U extends T>U two(T t,U u){return u;}"
            + "<T extends Integer,U extends T>U up(U u){return u;}<T>Integer box(T t){return 1;}<T>int num(T t){return 1;}<T>K key(K k,T t){return k;}"
            + "<T extends K>T of(T t){return t;}K get(K k){return k;}K f;static<T>T s(T t){return t;}<T>T[]row(T[]t){return t;}}"
            + "class B extends A<Integer>{Integer n;boolean z;Object o;void m(){for(;;o=z?";
        String[][] parts = {{"this.<Integer>id(n)", "8"}, {"(this.<Integer>id(n))", "8"}, {"super.<Integer>id(n)", "8"}, {"A.<Integer>s(n)", "8"},
            {"this.<Integer,Integer>two(n,n)", "8"}, {"this.<Integer>in(n)", "4"}, {"this.<Integer,Integer>up(n)", "4"}, {"this.<Object>box(n)", "4"},
            {"this.<Object>num(n)", "4"}, {"this.<Object>key(n,n)", "4"}, {"this.<Integer>of(n)", "4"}, {"get(n)", "4"}, {"f", "4"}, {"n", "4"},
            {"(Integer)this.<Integer>id(n)", "4"}, {"+this.<Integer>id(n)", "4"}, {"this.<Integer[]>id(null)[0]", "4"}, {"this.<Integer>row(null)[0]", "4"}};
        for (String[] p : parts) {
            for (int turn = 0; turn < 2; turn++) {
                String text = head + (turn == 0 ? p[0] + ":2" : "2:" + p[0]) + ");}}";
                int ask = head.length() - 1;
                FrontHouse x = House.taken(text);
                for (int i = 0; i < x.count(3); i++) {
                    if (x.expression(i, 0) == ask) {
                        House.same(text + "\n   type", x.expression(i, 1), p[1].equals("8") ? 8 : 4);
                        House.same(text + "\n   goes", x.expression(i, 2), p[1].equals("8") ? 7 : 4);
                    }
                }
                House.same(text + " with long", House.judged(text.replace(":2)", ":2L)").replace("?2:", "?2L:")).fault(0), p[1].equals("8") ? 54 : 0);
            }
        }
        String id = "class A{<T>T id(T t){return t;}void m(boolean c){Object o=c?";
        FrontHouse x = House.taken(id + "this.<Integer>id(1):2;}}");
        long[] due = {8, 7, -18, 8, 0, -18, 4, 3, 0};
        int[] rows = {2, 4, 6};
        for (int i = 0; i < rows.length; i++) {
            House.same("type of " + rows[i], x.expression(rows[i], 1), due[i * 3]);
            House.same("conversion of " + rows[i], x.expression(rows[i], 2), due[i * 3 + 1]);
            House.same("kind of " + rows[i], x.expression(rows[i], 4), due[i * 3 + 2]);
        }
        House.due(54, "class A{<T>T id(T t){return t;}void m(boolean c){Object o=c`?this.<Byte>id(null):2;}}");
        House.due(54, "class A{<T>T id(T t){return t;}void m(boolean c){Object o=c`?this.<Integer>id(1):this.<Long>id(2L);}}");
        House.fine("class A{<T>T id(T t){return t;}<T extends Long>T in(T t){return t;}void m(boolean c){Object o=c?1:this.<Long>in(2L);}}");
        House.due(54, "class A{<T>T id(T t){return t;}void m(boolean c){Object o=c`?this.<Boolean>id(true):1;}}");
        // a conditional of Boolean isn't one of booleans for [16.1.5]
        House.due(61, "class A{<T>T id(T t){return t;}void m(boolean c){int k;if(c?this.<Boolean>id((k=1)>0):false&&(k=1)>0)`k++;k=k;}}");
        House.due(61, "class A{<T>T id(T t){return t;}void m(boolean c){int k;if(c?this.<Boolean>id((k=1)>0):(false&&true))k=`k;}}");
        House.fine("class A{Boolean id(Boolean t){return t;}void m(boolean c){int k;if(c?id((k=1)>0):(false&&true))k=k;}}");
        String main = "class A{<T>T id(T t){return t;}Integer n(){return null;}}class Main{static void main(){Object o=true?";
        House.same("null of a var", ran(main + "new A().<Integer>id(null):2;Out.put(o);}}"), "0 4/0");
        House.same("null of a var, behind", ran(main + "new A().<Boolean>id(null):true;Out.put(o);}}"), "0 4/0");
        House.same("null of a box", ran(main + "new A().n():2;Out.put(o);}}"), "1 by -11");
        House.same("a number goes", ran(main + "new A().<Integer>id(null):2;int i=false?new A().<Integer>id(null):2;Out.put(i);i=true?new A().<Integer>id(null):2;}}"), "1 by -11 1/2");
    }

    public static void main(String[] args) {
        thrownByEach();
        erasedAsMember();
        servedByWhole();
        inheritedTogether();
        toldAlike();
        unreached();
        hangsByName();
        bracesOfInitializers();
        assignedAheadOfStuckFinally();
        conditionalsThatAreBoxes();
        constantsOfBytes();
        fieldsOfInterfaces();
        readsOfStaticFinals();
        constantsAsAWhole();
        callsThatCountByTheirMethod();
        House.end("what was mended");
    }
}
