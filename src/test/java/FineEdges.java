/** What stands between the other tests: each line here is broken by a small change of the program that they let pass. */
public final class FineEdges {

    private static void runs(String text, long... puts) {
        FrontHouse x = House.taken(text);
        House.same(text + "\n   run", x.run(5000, 2000), 0);
        House.same(text + "\n   entries", x.about(4), puts.length);
        for (int i = 0; i < puts.length; i++) {
            House.same(text + "\n   entry " + i, x.out(i, 1), puts[i]);
        }
    }

    /** The expression at ` : its type, its conversion. */
    private static void told(String marked, int type, int conversion) {
        int place = marked.indexOf('`');
        FrontHouse x = House.taken(marked.substring(0, place) + marked.substring(place + 1));
        for (int i = 0; i < x.count(3); i++) {
            if (x.expression(i, 0) == place) {
                House.same("type of " + marked, x.expression(i, 1), type);
                House.same("conversion of " + marked, x.expression(i, 2), conversion);
                return;
            }
        }
        House.same("expression of " + marked, 0, 1);
    }

    /** II, 33: kinds that hang from themselves over several others, in whatever order they are told. */
    private static void longRounds() {
        House.due(33, "class A extends `D { } class B extends A { } class C extends B { } class D extends C { }");
        House.due(33, "class A extends `B { } class B extends C { } class C extends D { } class D extends A { }");
        House.due(33, "interface A extends `C { } interface B extends A { } interface C extends D { } interface D extends B { }");
        House.due(33, "class E extends A { } class A extends `C { } class B extends A { } class C extends D { } class D extends B { }");
        House.due(33, "class A implements B { } interface B extends `D { } interface C extends B { } interface D extends C { }");
        House.fine("class A extends D { } class B { } class C extends B { } class D extends C { }");
    }

    /** II, 35: the erasures of all formals are asked, the second one's, too. */
    private static void secondFormals() {
        String b = "class B<T> { } ";
        House.due(35, b + "class A { void f(int a, B<A> b) { } void `f(int c, B<Object> d) { } }");
        House.due(35, b + "class A<T, U extends Error> { void f(int a, Error b, U c) { } void `f(int c, U d, Error e) { } }");
        House.fine("class A { void f(int a, long b) { } void f(int a, int b) { } void f(long a, int b) { } }");
        House.fine("class A<T, U extends Error> { void f(T a, U b) { } void f(U a, U b) { } void f(U a, T b) { } void f(T a, T b) { } }");
    }

    /** [8.4.2], [8.4.4], [8.4.5]: vars with other bounds, formals behind the first one, results that are things and numbers. */
    private static void overridden() {
        String k = "class K { } class P { ";
        House.fine(k + "<T, U extends K> void f(T t, U u) { } } class Q extends P { <V, W extends K> void f(V t, W u) { } }");
        House.due(36, k + "<T, U extends K> void f(T t) { } } class Q extends P { <V, W> void `f(V t) { } }");
        House.due(36, k + "<T, U extends K> void f(T t) { } } class Q extends P { <V, W extends Error> void `f(V t) { } }");
        House.due(36, k + "<T, U extends T> void f(T t) { } } class Q extends P { <V, W> void `f(V t) { } }");
        House.fine(k + "<T, U extends T> void f(T t) { } } class Q extends P { <V, W extends V> void f(V t) { } }");
        House.fine("class P<T> { <V> void f(int i, V v) { } } class Q<T> extends P<T> { void f(int i, Object o) { } }");
        House.due(36, "class P<T> { <V> int f(int i, V v) { return 1; } } class Q<T> extends P<T> { void `f(int i, Object o) { } }");
        House.fine("class P<T> { <V> int f(int i, V v) { return 1; } } class Q<T> extends P<T> { void f(int i, Error o) { } }");
        House.fine("class P<T> { <V> int f(V v, int i) { return 1; } } class Q<T> extends P<T> { void f(Object v, long i) { } }");
        String[] numbers = {"boolean", "byte", "short", "char", "int", "long"};
        String[] things = {"Boolean", "Byte", "Short", "Character", "Integer", "Long"};
        for (int i = 0; i < numbers.length; i++) {
            House.due(36, "abstract class P { abstract " + numbers[i] + " f(); } abstract class Q extends P { abstract " + things[i] + " `f(); }");
            House.due(36, "abstract class P { abstract " + things[i] + " f(); } abstract class Q extends P { abstract " + numbers[i] + " `f(); }");
            House.due(36, "abstract class P { abstract Object f(); } abstract class Q extends P { abstract " + numbers[i] + " `f(); }");
            House.fine("abstract class P { abstract Object f(); } abstract class Q extends P { abstract " + things[i] + " f(); }");
            House.due(37, "interface I { " + numbers[i] + " f(); } interface J { " + things[i] + " f(); } interface `K extends I, J { }");
        }
        House.fine("interface I { int f(); void g(); Object h(); } interface J { int f(); Object h(); boolean i(); } abstract class K implements I, J { abstract long j(); }");
        House.due(37, "interface I { int f(); void g(); } interface J { void g(); long f(); } abstract class `K implements I, J { abstract long j(); }");
        String face = "class K { } interface I<T> { void f(T t); } interface J { <V extends K> ";
        House.fine(face + "void f(V v); } interface L extends I<K>, J { }");
        House.due(37, face + "int f(V v); } interface `L extends I<K>, J { }");
        House.fine(face + "int f(V v); } interface L extends I<Error>, J { }");
    }

    /** [8.4.8.3]: what is thrown by a method's own vars is told by the other one's vars. */
    private static void thrownVars() {
        String p = "class P { <E extends Exception> void f() throws E { } } class Q extends P { ";
        House.fine(p + "<F extends Exception> void f() throws F { } }");
        House.fine(p + "<F extends Exception> void f() { } }");
        House.due(36, p + "<F extends Exception> void `f() throws Exception { } }");
        House.due(36, p + "void `f() throws Exception { } }");
        House.fine(p + "void f() { } }");
        House.due(36, "class P { <E extends Exception, F extends Exception> void f() throws F { } } "
            + "class Q extends P { <G extends Exception, H extends Exception> void `f() throws G { } }");
        String pair = "class A<E extends Exception> { <G extends Exception> void g() throws G { } void e() throws E { } ";
        House.fine(pair + "void m() throws E { try { e(); } catch (Exception x) { throw x; } } }");
        House.due(63, pair + "void m() { try { e(); } catch (Exception x) { `throw x; } } }");
        House.fine(pair + "<F extends Exception> void m() throws F { try { this.<F>g(); } catch (Exception x) { throw x; } } }");
        House.due(63, pair + "<F extends Exception> void m() throws E { try { this.<F>g(); } catch (Exception x) { `throw x; } } }");
        House.due(63, pair + "<F extends Exception> void m() throws F { try { this.<E>g(); } catch (Exception x) { `throw x; } } }");
        House.fine(pair + "<F extends Exception, H extends Error, I extends Exception> void m() throws F, I { "
            + "try { this.<F>g(); this.<I>g(); } catch (Exception x) { throw x; } } }");
        House.due(63, pair + "<F extends Exception, H extends Error, I extends Exception> void m() throws F { "
            + "try { this.<F>g(); this.<I>g(); } catch (Exception x) { `throw x; } } }");
        House.due(63, pair + "<F extends Exception, H extends Error, I extends Exception> void m() throws I { "
            + "try { this.<F>g(); this.<I>g(); } catch (Exception x) { `throw x; } } }");
        House.fine("class A<D, E extends Exception, F extends Exception> { void e() throws E { } void f() throws F { } "
            + "void m() throws F { try { f(); } catch (Exception x) { throw x; } } }");
        House.due(63, "class A<D, E extends Exception, F extends Exception> { void e() throws E { } void f() throws F { } "
            + "void m() throws E { try { f(); } catch (Exception x) { `throw x; } } }");
    }

    /** II, 34: in an interface all but public, abstract. */
    private static void modifiersOfFaces() {
        for (String m : new String[] {"protected", "private", "static", "final", "abstract"}) {
            House.due(34, "interface A { `" + m + " int x; }");
            House.due(34, "interface A { public `" + m + " int x; }");
        }
        House.due(34, "interface A { public int `x; }");
    }

    /** [15.12.2.5]: a method with one formal more, and methods that are most specific but not alike. */
    private static void specific() {
        House.due(44, "class A { void f(int... a) { } void f(int a, long... b) { } void g() { `f(1); } }");
        House.due(44, "class A { void f(int... a) { } void f(int a, int... b) { } void g() { `f(1); } }");
        House.same("the one with byte", House.taken("class A { void f(int... a) { } void f(int a, byte... b) { } void g() { f(1); } }").call(0, 1), 1);
        House.same("the one with Integer", House.taken("class A { void f(Object a, Integer... b) { } void f(Integer... a) { } "
            + "void g(Integer i) { f(i, i); } }").call(0, 1), 1);
        House.due(44, "class A { void f(Integer a, Object... b) { } void f(Integer... a) { } void g() { `f(1); } }");
        House.due(44, "interface I { void f(I a, Object b); void f(Object a, I b); } class A { void g(I i) { i.`f(i, i); } }");
        House.due(44, "interface I { void f(int... a); void f(int a, int... b); } class A { void g(I i) { i.`f(1); } }");
        House.due(44, "abstract class I { abstract void f(int... a); void f(int a, int... b) { } } class A { void g(I i) { i.`f(1); } }");
        House.due(44, "abstract class I { abstract void f(I a, Object b); void f(Object a, I b) { } } class A { void g(I i) { i.`f(i, i); } }");
    }

    /** Constants that others tell, in whatever order they stand. */
    private static void constantsByOthers() {
        House.fine("class A { static final byte b = B.x; } class B { static final int x = 5; }");
        House.fine("class A { static final byte b = B.c; static final int a = 7; } class B { static final int c = C.d; } class C { static final int d = A.a; }");
        House.due(41, "class A { static final byte b = B.`x; } class B { static final int x = 128; }");
        House.due(41, "class A { static final byte b = B.`x; } class B { static int x = 5; }");
        House.fine("class A { final byte b = true ? B.x : 4; } class B { static final int x = 5; }");
        House.due(41, "class A { final byte b = B.t `? 4 : B.x; } class B { static boolean t; static final int x = 5; }");
    }

    /** What an implicit super(..) calls by phase 3 gets an array. */
    private static void silentRows() {
        runs("class P { P(int... x) { Out.put(x.length); } } class Main extends P { static void main() { new Main(); } }", 0);
        runs("class P { P(int... x) { Out.put(x.length); } } class Main extends P { Main(int y) { } static void main() { new Main(1); } }", 0);
        FrontHouse x = House.taken("class P { P(int... x) { } } class Main extends P { static void main() { new Main(); } }");
        x.run(100, 100);
        House.same("cells", x.about(3), 3);
    }

    /** A label goes to the switch's type as a value does that is assigned to it. */
    private static void labels() {
        String[] kinds = {"byte", "Byte", "short", "Short", "char", "Character", "int", "Integer"};
        String[] values = {"1", "'a'", "(short) 1", "(byte) 1"};
        int[][] due = {{2, 2, 2, 0}, {8, 8, 8, 3}, {2, 2, 0, 1}, {8, 8, 3, -1}, {2, 0, 2, -1}, {8, 3, 8, -1}, {0, 1, 1, 1}, {3, -1, -1, -1}};
        for (int k = 0; k < kinds.length; k++) {
            for (int v = 0; v < values.length; v++) {
                String text = "class A { void f(" + kinds[k] + " x) { switch (x) { case `" + values[v] + ": } } }";
                if (due[k][v] < 0) {
                    House.due(50, text);
                } else {
                    told(text, new int[] {4, 3, 2, 1}[v], due[k][v]);
                }
            }
        }
    }

    /** "Its type has always: .. && || .., whatever their operands"; super.name; what stands behind a shift. */
    private static void operands() {
        House.due(42, "class A { int x = 1 `+ (1 && 2); }");
        House.due(42, "class A { int x = 1 `+ (1 || 2); }");
        House.due(42, "class A { boolean x = true `+ (1 && 2); }");
        House.due(42, "class A { boolean x = true & (1 `&& 2); }");
        House.due(40, "class A { int x = super.`y; }");
        House.due(40, "class P { private int y; } class A extends P { int x = 1; } class B extends A { int z = super.`y; }");
        House.due(48, "class P { final int y = 1; } class A extends P { A() { super.y `= 1; } }");
        House.due(48, "class P { final int y; P() { y = 1; } } class A extends P { A() { super.y `= 1; } }");
        House.fine("class P { int y; } class A extends P { A() { super.y = 1; } }");
        House.fine("class A { int y = x = 1; final int x; }");
        House.due(48, "class A { int y = x `= 1; static final int x; }");
        told("class A { long f(long x) { return x >>> `2; } }", 4, 0);
        told("class A { long f(long x) { return x >> `2; } }", 4, 0);
        told("class A { int f(byte x) { return 5L == 5 ? 1 >>> `x : 2; } }", 1, 1);
        told("class A { void f(long x) { x >>>= `2; } }", 4, 0);
        told("class A { void f(long x) { x <<= `2; } }", 4, 0);
        told("class A { void f(int x) { x >>>= `2L; } }", 5, 0);
        told("class A { void f(long x) { x += `2; } }", 4, 1);
    }

    /** [16]: && where no condition is asked, what stands ahead of a point, rows of for each that are left. */
    private static void assigned() {
        House.due(62, "class A { void f(boolean c) { final int x; boolean b = c && (x = 1) > 0; x `= 2; } }");
        House.due(62, "class A { void f(boolean c) { final int x; boolean b = c || (x = 1) > 0; x `= 2; } }");
        House.due(62, "class A { void f(boolean c) { final int x; boolean b = c && ((x = 1) > 0 && false); x `= 2; } }");
        House.due(62, "class A { void f(boolean c) { final int x; boolean b = c || ((x = 1) > 0 || true); x `= 2; } }");
        House.fine("class A { void f(boolean c) { final int x; if (c && ((x = 1) > 0 && false)) x = 2; } }");
        House.due(61, "class A { void f(boolean c) { int x; boolean b = c && (x = 1) > 0; c = `x > 0; } }");
        House.due(61, "class A { int x; void f() { A a; `a.x = 1; } }");
        House.due(61, "class A { int x; void f() { A a; `a.x += 1; } }");
        House.due(61, "class A { int x; void f() { A[] a; `a[0].x = 1; } }");
        House.fine("class A { void f(int[] a, boolean b) { final int x; for (int i : a) { if (b) break; } x = 1; } }");
        House.due(62, "class A { void f(int[] a, boolean b) { final int x; for (int i : a) { if (b) { x = 2; break; } } x `= 1; } }");
        House.due(61, "class A { void f(int[] a, boolean b) { int x; for (int i : a) { x = 2; break; } f(a, `x > 1); } }");
        House.due(62, "class A { void f(int[] a, boolean b) { final int x; for (int i : a) { if (b) continue; x `= 2; } } }");
        House.fine("class A { void f(int[] a, boolean b) { final int x; for (int i : a) { if (b) continue; x = 2; break; } } }");
        House.due(61, "class A { final int x; `A(boolean b) { super(); } A() { x = 1; } }");
        House.fine("class A { final int x; A(boolean b) { this(); } A() { super(); x = 1; } }");
        House.due(62, "class A { final int x; A(boolean b) { this(); x `= 2; } A() { x = 1; } }");
        House.due(61, "class A { A(int i) { } } class B extends A { final int x; B(int y) { super(y); int z; x = `z; } }");
    }

    /** [14.22], [11.2]: a switch whose only group ends it, rows of a for that throw, the first field's value. */
    private static void reachedAndThrown() {
        House.fine("class A { int f(int x) { switch (x) { } return 1; } }");
        House.due(60, "class A { int f(int x) { switch (x) { default: return 1; } `return 2; } }");
        House.fine("class A { int f(int x) { switch (x) { default: } return 2; } }");
        String t = "class X extends Exception { } class A { static int t() throws X { return 1; } ";
        House.due(63, t + "void f() { for (`t(); ; ) { } } }");
        House.due(63, t + "void f() { for (int i = `t(); ; ) { } } }");
        House.due(63, t + "void f() { for (; ; `t()) { } } }");
        House.due(63, t + "void f() { for (int i : new int[`t()]) { } } }");
        House.due(63, "class X extends Exception { } class A { int x = `t(); static int t() throws X { return 1; } }");
        House.fine("class X extends Exception { } class A { int x = t(); A() throws X { } static int t() throws X { return 1; } }");
        House.due(63, "class X extends Exception { } class A { static int x = `t(); A() throws X { } static int t() throws X { return 1; } }");
        String[] parts = {"int x = -`t();", "int x = (int) `t();", "boolean b = `t() > 1;", "int x = 1 + `t();", "int x = true ? 1 : `t();",
            "int x = `t() == 1 ? 2 : 3;", "int x; x = `t();", "int[] a = { 1, `t() };", "int[] a = new int[] { `t() };", "int[][][] a = new int[2][`t()][];",
            "int x = new int[3][`t()].length;", "int x = new int[3].length + `t();", "boolean b = (Object) `t() instanceof A;", "Out.put(`t());",
            "int[] a = null; a[`t()]++;", "int[] a = null; a[`t()] = 1;", "switch (`t()) { }", "new A().f(`t());", "return; }  int g() { return `t();"};
        for (String p : parts) {
            House.due(63, t + "void f(int... k) { " + p + " } }");
        }
    }

    /** What NESTING counts is left again behind each thing that has others in it. */
    private static void leftAgain() {
        String[] parts = {"L: ;", "if (b) ; else ;", "if (b) { }", "while (b) ;", "do ; while (b);", "for (; b; ) ;", "for (int i : a) ;", "switch (n) { }",
            "switch (n) { case 1: ; default: }", "try { } finally { }", "try { } catch (Error e) { }", "{ }", "f((n), -n, (int) n);", "n = n = n;",
            "n += b ? n : n;", "n = a[n];", "int[] X = { n };", "A<A<Object>> X;", "A<A<Object>[]> X = new A<A<Object>[]>();", "n = -+-n;",
            "b = a instanceof int[];", "this.<Object>g();", "n = (n < n ? 1 : 2);", "L: M: while (b) ;", "b = !b;", "n = (int) (byte) n;", "X: { break X; }"};
        for (String part : parts) {
            StringBuilder all = new StringBuilder("class A<T> { int n; boolean b; int[] a; void f(int x, int y, int z) { } <U> void g() { } void m() { ");
            for (int i = 0; i < 30; i++) {
                all.append(part.replace("X", "x" + i)).append(' ');
            }
            House.fine(all + "} }");
        }
    }

    /** [ ] behind a field's name; final fields beside many locals; T in what is static. */
    private static void fields() {
        House.fine("class A { int x[] = { 1 }, y = 1, z[][] = { { 2 }, x }; int[] v[] = z; int w = z[0][1] + v[1][0] + y; }");
        House.due(41, "class A { int x[] = `1; }");
        House.due(42, "class A { int x[], y; int z = y`[0]; }");
        String locals = "";
        for (int i = 0; i < 38; i++) {
            locals += "int v" + i + " = 1; ";
        }
        String finals = "class A { final int " + House.row("f", "", ", ", 20) + "; ";
        String given = House.row("f", " = 1;", " ", 20);
        House.fine(finals + "A(int a, int b) { " + locals + given + " } }");
        House.due(61, finals + "`A(int a, int b) { " + locals + given.replace("f19 = 1;", "") + " } }");
        House.due(61, finals + "`A(int a, int b) { " + locals + given.replace("f0 = 1;", "") + " } }");
        House.due(62, finals + "A(int a, int b) { " + locals + given + " f19 `= 2; } }");
        House.due(61, finals + "A(int a, int b) { " + locals.replace("v37 = 1", "v37") + given + " v0 = `v37; } }");
        House.due(40, "class A<T> { static int f() { return `T.x; } }");
        House.due(40, "class A<T> { static <U> int f() { return U.`x; } }");
        House.due(40, "class A<T> { int f() { return T.`x; } }");
        House.due(40, "class T { static int x; } class A<T> { static int f() { return `T.x; } }");
        House.fine("class T { static int x; } class A<U> { static int f() { return T.x; } }");
    }

    private static String main(String members, String body) {
        return "class Main { " + members + " static void main() { " + body + " } }";
    }

    /** && || ! as values, rows of rows and what may stand in them, returns through more than one finally. */
    private static void machine() {
        String t = "static boolean t(boolean b, int i) { Out.put(i); return b; }";
        runs(main(t, "boolean a = t(true, 5) && t(false, 6); Out.put(a); a = t(false, 5) && t(true, 6); Out.put(a); a = t(true, 5) && t(true, 6); Out.put(a);"),
            5, 6, 0, 5, 0, 5, 6, 1);
        runs(main(t, "boolean a = t(true, 5) || t(false, 6); Out.put(a); a = t(false, 5) || t(true, 6); Out.put(a); a = t(false, 5) || t(false, 6); Out.put(a);"),
            5, 1, 5, 6, 1, 5, 6, 0);
        runs(main(t, "boolean a = !t(true, 5); Out.put(a); Out.put(!a); Out.put(!!a); Out.put(a == !t(false, 6)); Out.put(!a & a);"),
            5, 0, 1, 0, 6, 0, 0);
        runs(main("", "int[][] a = new int[2][3]; a[1][2] = 7; a[0][0]++; Out.put(a[1][2]); Out.put(a[0][0]); Out.put(a[1][0]); Out.put(a[1].length); "
            + "Object o = a[1], p = a; Out.put(o instanceof int[]); Out.put(o instanceof Object[]); Out.put(p instanceof Object[]); "
            + "Out.put(p instanceof int[][]); Out.put(p instanceof Object[][]); a[0] = a[1]; Out.put(a[0][2]);"), 7, 1, 0, 3, 1, 0, 1, 1, 0, 7);
        runs(main("", "Object[][] r = new Main[2][2]; r[1][0] = new Main(); r[0] = new Main[1]; Out.put(r[0].length); "
            + "try { r[1] = new Object[1]; } catch (ArrayStoreException e) { Out.put(9); } "
            + "try { r[1][1] = new Object(); } catch (ArrayStoreException e) { Out.put(8); } "
            + "Object[] q = new Main[3][]; Out.put(q[2] == null); q[2] = new Main[0]; q[1] = null; "
            + "try { q[0] = new Main(); } catch (ArrayStoreException e) { Out.put(7); }"), 1, 9, 8, 1, 7);
        FrontHouse x = House.taken(main("", "long[][][] a = new long[2][3][];"));
        x.run(100, 100);
        House.same("cells of rows", x.about(3), 14);
        runs(main("static int n; static int f() { try { return 1; } finally { try { if (n++ > 0) return 2; } finally { Out.put(5); } } }",
            "Out.put(f()); Out.put(f());"), 5, 1, 5, 2);
        runs(main("static int g(int i) { Out.put(i); return i; } static int f() { try { return g(1); } finally { try { try { return g(2); } finally { g(3); } } "
            + "finally { g(4); } } }", "Out.put(f());"), 1, 2, 3, 4, 2);
        runs(main("static int n; static Main m() { n += 10; return null; }", "m().n += 2; Out.put(n); m().n++; Out.put(m().n); m().n = m().n = 3; Out.put(n);"), 12, 33, 3);
    }

    private static void cast(String from, String to, int due) {
        String kinds = "class B { } class D extends B { } interface I<X> { } class A<X> { } class E<X> extends A<X> { } class K implements I<B> { } "
            + "final class N<X> implements I<X> { } class R<X, Y> implements I<B> { } class Q<X> extends A<A<X>> { } class S<X, Y> extends R<Y, X> { } "
            + "interface J<X> extends I<X> { } class M<T, U extends B, V extends Error, W extends I<B>> { <Z extends N<B>> Object f(";
        String ahead = kinds + from + " x) { return ";
        if (due < 0) {
            House.due(52, ahead + "`(" + to + ") x; } }");
            return;
        }
        FrontHouse x = House.taken(ahead + "(" + to + ") x; } }");
        House.same("(" + to + ") of " + from, x.expression(1, 2), due);
    }

    /** [4.5.1], [5.1.6]: type arguments that can't be the same, and what a narrowing conversion leaves unseen. */
    private static void casts() {
        String[][] rows = {{"A<B>", "A<B>", "0"}, {"A<B>", "A<D>", "-1"}, {"A<T>", "A<B>", "10"}, {"A<B>", "A<T>", "10"}, {"A<U>", "A<B>", "10"},
            {"A<U>", "A<D>", "10"}, {"A<V>", "A<B>", "-1"}, {"A<U>", "A<V>", "-1"}, {"A<T>", "A<U>", "10"}, {"A<W>", "A<B>", "-1"}, {"A<W>", "A<I<D>>", "10"},
            {"A<Z>", "A<I<B>>", "10"}, {"A<W>", "A<Z>", "10"}, {"A<T[]>", "A<B[]>", "-1"}, {"A<T>", "A<B[]>", "10"}, {"A<A<T>>", "A<A<B>>", "-1"},
            {"A<B>", "E<B>", "9"}, {"A<B>", "E<D>", "-1"}, {"A<B>", "E<T>", "10"}, {"A<B>[]", "E<B>[]", "9"}, {"A<B>[][]", "E<T>[][]", "10"}, {"A<B>[]", "E<D>[]", "-1"}, {"Object[]", "A<B>[][]", "10"}, {"A<T>", "E<B>", "10"}, {"E<B>", "A<B>", "7"}, {"E<B>", "A<D>", "-1"},
            {"I<B>", "K", "9"}, {"I<D>", "K", "-1"}, {"I<T>", "K", "9"}, {"I<V>", "K", "-1"}, {"I<B>", "R<D, D>", "10"}, {"K", "I<B>", "7"}, {"K", "I<D>", "-1"},
            {"R<B, B>", "S<B, B>", "9"}, {"R<B, D>", "S<D, B>", "9"}, {"R<B, D>", "S<B, D>", "-1"}, {"R<T, D>", "S<D, T>", "9"}, {"S<B, D>", "R<D, B>", "7"},
            {"A<A<B>>", "Q<B>", "9"}, {"A<A<B>>", "Q<D>", "-1"}, {"A<A<T>>", "Q<T>", "9"}, {"A<B>", "Q<B>", "-1"}, {"A<T>", "Q<B>", "10"}, {"Q<B>", "A<A<B>>", "7"},
            {"Object", "A<B>", "10"}, {"Object", "K", "9"}, {"Object", "T", "10"}, {"T", "U", "10"}, {"U", "V", "-1"}, {"U", "D", "9"}, {"D", "U", "10"}, {"V", "D", "-1"},
            {"W", "K", "9"}, {"W", "N<B>", "9"}, {"W", "N<D>", "-1"}, {"W", "N<T>", "10"}, {"W", "J<B>", "9"}, {"W", "R<B, B>", "10"}, {"Z", "I<B>", "7"}, {"Z", "K", "-1"},
            {"N<B>", "K", "-1"}, {"N<B>", "J<B>", "-1"}, {"J<B>", "N<B>", "-1"}, {"J<B>", "K", "9"}, {"J<D>", "K", "-1"}, {"J<B>", "I<B>", "7"}, {"B", "I<B>", "10"},
            {"I<B>", "B", "9"}, {"B", "Error", "-1"}, {"B[]", "D[]", "9"}, {"D[]", "B[]", "7"}, {"B[]", "K[]", "-1"}, {"Object[]", "T[]", "10"}, {"Object", "B[][]", "9"},
            {"Object[]", "int[][]", "9"}, {"Object[]", "int[]", "-1"}, {"int[]", "long[]", "-1"}, {"B[]", "Object", "7"}, {"B[][]", "Object[]", "7"}, {"B[]", "T", "10"},
            {"T", "B[]", "9"}, {"U", "B[]", "-1"}, {"B[]", "I<B>[]", "10"}, {"I<B>", "B[]", "-1"}, {"B[]", "A<B>", "-1"}, {"T[]", "U[]", "10"}, {"U[]", "B[]", "7"}};
        for (String[] r : rows) {
            cast(r[0], r[1], Integer.parseInt(r[2]));
        }
    }

    /** [4.10]: what stands below types with arguments, over kinds that change their order or put more around them. */
    private static void below() {
        String kinds = "class B { } class C<X> { } class P<X, Y> { } class Q<X, Y> extends P<Y, C<X>> { } class R<X> extends Q<X[], X> { } class A<T extends B> { void f(";
        String[][] rows = {{"Q<B, C<B>> x", "P<C<B>, C<B>> y = ", "1"}, {"Q<B, B> x", "P<B, C<B>> y = ", "1"}, {"Q<B, B> x", "P<C<B>, B> y = ", ""},
            {"R<B> x", "P<B, C<B[]>> y = ", "1"}, {"R<B> x", "P<B[], C<B>> y = ", ""}, {"R<T> x", "P<T, C<T[]>> y = ", "1"}, {"R<T> x", "P<B, C<B[]>> y = ", ""},
            {"R<int[]> x", "P<int[], C<int[][]>> y = ", "1"}, {"R<R<B>> x", "P<R<B>, C<R<B>[]>> y = ", "1"}, {"R<B>[] x", "P<B, C<B[]>>[] y = ", "1"},
            {"R<B>[] x", "Q<B[], B> y = ", ""}, {"R<B>[][] x", "Object[] y = ", "1"}, {"int[][] x", "Object[] y = ", "1"}, {"int[] x", "Object[] y = ", ""},
            {"T[] x", "B[] y = ", "1"}, {"B[] x", "T[] y = ", ""}, {"T x", "B y = ", "1"}, {"C<T> x", "C<B> y = ", ""}, {"int[] x", "long[] y = ", ""}};
        for (String[] r : rows) {
            House.due(r[2].isEmpty() ? 41 : 0, kinds + r[0] + ") { " + r[1] + "`x; } }");
        }
    }

    /** Hexadecimal digits, what no hexadecimal floating-point literal is, and escapes that the text's end cuts. */
    private static void words() {
        House.same("0xA", House.taken("class A { int x = 0xA + 0xa0AfF9; }").constant(1), 10 + 0xa0AfF9);
        House.fine("class \\u0041 { \\u0041 x; }");
        House.due(1, "class A { int x = 0`x.p1; }");
        House.due(1, "class A { int x = 0`xp1; }");
        House.due(2, "class A { `double x; }");
        House.due(2, "class A { int x = `0x.1p1; }");
        House.due(2, "class A { int x = `0x1.p1; }");
        House.due(40, "class A { int x = 0x1.`x; }");
        String text = "class \\u0041{}";
        for (int n = 0; n <= text.length(); n++) {
            FrontHouse x = new FrontHouse();
            House.feed(x, text);
            int due = n == 0 || n == text.length() ? 0 : 1;
            House.same("judge(" + n + ") of " + text, x.judge(n), due);
            House.same("place of judge(" + n + ")", x.fault(1), due == 0 ? -1 : n < 5 ? 0 : n < 7 ? n : n < 12 ? 6 : n);
        }
    }

    public static void main(String[] args) {
        words();
        casts();
        below();
        machine();
        leftAgain();
        fields();
        longRounds();
        secondFormals();
        overridden();
        thrownVars();
        modifiersOfFaces();
        specific();
        constantsByOthers();
        silentRows();
        labels();
        operands();
        assigned();
        reachedAndThrown();
        House.end("what stands between the other tests");
    }
}
