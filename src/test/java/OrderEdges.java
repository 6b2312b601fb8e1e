/** Part VI of the document: in which order a run does things, what is looked at, and when kinds are started. */
public final class OrderEdges {

    /** A text, how its run ends (0, or the kind that is thrown), and what it puts: kind:number .. */
    private static void puts(String text, int thrown, String want) {
        FrontHouse x = House.taken(text);
        House.same("run of " + text, x.run(50000, 20000), thrown == 0 ? 0 : 1);
        House.same("thrown by " + text, x.about(1), thrown);
        StringBuilder b = new StringBuilder();
        for (int i = 0; i < x.about(4); i++) {
            b.append(i == 0 ? "" : " ").append(x.out(i, 0)).append(':').append(x.out(i, 1));
        }
        House.same("what is put by " + text, b.toString(), want);
    }

    /** p(i) puts i and answers it; q(i) puts it and answers null. */
    private static void in(String body, int thrown, String want) {
        puts("class Main { static int n; int m; static int s; static int p(int i) { Out.put(i); return i; } static boolean b(int i) { Out.put(i); return i > 0; } "
            + "static Integer q(int i) { Out.put(i); return null; } static int[] r(int i) { Out.put(i); return i > 0 ? new int[3] : null; } static Main o(int i) { Out.put(i); return i > 0 ? new Main() : null; } "
            + "static void t(int a, int b) { Out.put(a + b); } void u(int a) { Out.put(a); } static void main() { " + body + " } }", thrown, want);
    }

    /** [15.7]: operands from left to right. */
    private static void operands() {
        in("n = p(1) + p(2) * p(3);", 0, "1:1 1:2 1:3");
        in("t(p(1), p(2));", 0, "1:1 1:2 1:3");
        in("r(1)[p(2)] = p(0);", 0, "1:1 1:2 1:0");
        in("o(1).m = p(2);", 0, "1:1 1:2");
        in("o(1).u(p(2));", 0, "1:1 1:2 1:2");
        in("Object x = new int[p(1)][p(2)];", 0, "1:1 1:2");
        in("int[] x = { p(1), p(2) };", 0, "1:1 1:2");
        in("n = b(1) ? p(2) : p(3); n = b(0) ? p(2) : p(3);", 0, "1:1 1:2 1:0 1:3");
        in("boolean x = b(0) && b(1); x = b(1) && b(2); x = b(1) || b(2); x = b(0) || b(2);", 0, "1:0 1:1 1:2 1:1 1:0 1:2");
        in("boolean x = b(0) & b(1); x = b(1) | b(2); x = b(1) ^ b(0);", 0, "1:0 1:1 1:1 1:2 1:1 1:0");
        in("int x = 1; x = x++ + x; Out.put(x); x = 1; x += x++ * 2 + x; Out.put(x); int[] a = { 0, 0, 0 }; int i = 0; a[i] = i = 2; Out.put(a[0]); Out.put(a[2]);", 0, "1:3 1:5 1:2 1:0");
        in("n = p(1) / p(0) + p(2);", -6, "1:1 1:0");
        in("for (n = p(1); n < p(2); n = n + p(3)) p(4);", 0, "1:1 1:2 1:4 1:3 1:2");
    }

    /** "An operand is converted (also unboxed [5.1.8]) as soon as its value is there, ahead of the next operand (the left side's value of += .., too)". */
    private static void conversions() {
        in("n = q(1) + p(2);", -11, "1:1");
        in("n = p(1) + q(2) + p(3);", -11, "1:1 1:2");
        in("boolean x = q(1) == p(2);", -11, "1:1");
        in("boolean x = q(1) == q(2); Out.put(x);", 0, "1:1 1:2 0:1");
        in("t(q(1), p(2));", -11, "1:1");
        in("n = r(1)[q(2)] + p(3);", -11, "1:1 1:2");
        in("Integer x = null; x += p(1);", -11, "");
        in("Integer x = null; x++;", -11, "");
        in("Integer[] x = { null }; x[p(0)] += p(1);", -11, "1:0");
        in("int[] x = { q(1), p(2) };", -11, "1:1");
        in("Object x = new int[q(1)][p(2)];", -11, "1:1");
        in("switch (q(1)) { default: p(2); }", -11, "1:1");
        in("Boolean x = null; if (x) p(1); else p(2);", -11, "");
        in("Boolean x = null; boolean y = b(1) && x || b(2);", -11, "1:1");
        in("n = b(1) ? q(2) : p(3);", -11, "1:1 1:2");
        in("Object x = b(1) ? q(2) : null; Out.put(x);", 0, "1:1 1:2 4:0");
    }

    /** null, indices, sizes: when they are found [15.10] .. [15.26]. */
    private static void nulls() {
        in("r(0)[p(1)] = p(2);", -11, "1:0 1:1 1:2");
        in("r(1)[p(5)] = p(2);", -7, "1:1 1:5 1:2");
        in("r(0)[p(1)] += p(2);", -11, "1:0 1:1");
        in("r(1)[p(3)] += p(2);", -7, "1:1 1:3");
        in("r(1)[p(2)] += p(2);", 0, "1:1 1:2 1:2");
        in("r(1)[p(-1)]++;", -7, "1:1 1:-1");
        in("n = r(0)[p(1)];", -11, "1:0 1:1");
        in("n = r(0).length + p(1);", -11, "1:0");
        in("o(0).m = p(1);", -11, "1:0 1:1");
        in("o(0).m += p(1);", -11, "1:0");
        in("o(0).u(p(1));", -11, "1:0 1:1");
        in("o(0).s = p(1); Out.put(s);", 0, "1:0 1:1 1:1");
        in("o(0).t(p(1), p(2));", 0, "1:0 1:1 1:2 1:3");
        in("Object x = new int[p(-1)][p(2)];", -10, "1:-1 1:2");
        in("Object x = new int[p(0)][p(-2)];", -10, "1:0 1:-2");
        in("Object[] x = new Main[1]; x[p(0)] = p(1);", -8, "1:0 1:1");
        in("Object[] x = new Main[1]; x[p(1)] = p(1);", -7, "1:1 1:1");
        in("for (int i : r(0)) p(1);", -11, "1:0");
        in("throw null;", -11, "");
        in("Error e = null; try { throw e; } catch (NullPointerException f) { p(1); }", 0, "1:1");
    }

    /** try, catch, finally and jumps through them. */
    private static void finallyBlocks() {
        in("try { p(1); } finally { p(2); }", 0, "1:1 1:2");
        in("try { n = 1 / n; p(1); } catch (ArithmeticException e) { p(2); } finally { p(3); } p(4);", 0, "1:2 1:3 1:4");
        in("try { n = 1 / n; } catch (NullPointerException e) { p(2); } finally { p(3); } p(4);", -6, "1:3");
        in("try { try { n = 1 / n; } finally { p(1); throw new Error(); } } catch (ArithmeticException e) { p(2); } catch (Error e) { p(3); }", 0, "1:1 1:3");
        in("try { try { n = 1 / n; } catch (ArithmeticException e) { throw new Error(); } finally { p(1); } } catch (Error e) { p(3); }", 0, "1:1 1:3");
        in("while (true) { try { try { break; } finally { p(1); } } finally { p(2); } } p(3);", 0, "1:1 1:2 1:3");
        in("a: for (int i = 0; i < 2; i++) { for (;;) { try { continue a; } finally { p(i); } } }", 0, "1:0 1:1");
        in("a: { try { break a; } finally { p(1); } } try { return; } finally { p(2); }", 0, "1:1 1:2");
        in("while (true) { try { n = 1 / n; } finally { break; } } p(1);", 0, "1:1");
        puts("class Main { static int f() { int x = 1; try { return x; } finally { x = 2; } } static int g() { try { return 1; } finally { return 2; } } static int h() { while (true) { try { return 1; } finally { break; } } return 3; } "
            + "static int i() { try { try { return 1; } finally { Out.put(5); } } finally { Out.put(6); } } static void main() { Out.put(f()); Out.put(g()); Out.put(h()); Out.put(i()); } }", 0, "1:1 1:2 1:3 1:5 1:6 1:1");
    }

    /** "Each value that is got from a field, a local, a call, an element whose told type has another erasure than its type .. is looked at". */
    private static void looks() {
        String row = "class Row<T> { T t; T[] a; T get() { return t; } void set(T t) { this.t = t; Out.put(7); } T[] all() { return a; } } ";
        String head = row + "class Main { static void main() { Row<Integer> r = new Row<Integer>(); Object o = r; Row<Error> e = (Row<Error>) o; r.t = 5; Out.put(1); ";
        puts(head + "Out.put(r.get() + r.t); } }", 0, "1:1 1:10");
        puts(head + "Error x = e.t; Out.put(2); } }", -9, "1:1");
        puts(head + "Object x = e.t; Out.put(2); } }", -9, "1:1");
        puts(head + "e.get(); Out.put(2); } }", -9, "1:1");
        puts(head + "Out.put(e.t); } }", -9, "1:1");
        puts(head + "Object x = (Object) e.get(); } }", -9, "1:1");
        puts(head + "e.t = null; e.set(null); Error x = e.t; Out.put(2); } }", 0, "1:1 1:7 1:2");
        puts(head + "e.set(new Error()); Out.put(2); Out.put(r.t); } }", -9, "1:1 1:7 1:2");
        puts(head + "Row<Object> p = (Row<Object>) o; Out.put(p.t); Out.put(p.get()); } }", 0, "1:1 4:82 4:82");
        String array = row.replace("T get()", "void fill() { a = (T[]) new Object[1]; } T first() { return a[0]; } T get()");
        puts(array + "class Main { static void main() { Row<Integer> r = new Row<Integer>(); r.fill(); Out.put(r.first()); Object x = r.a; Out.put(2); } }", -9, "4:0");
        puts(array + "class Main { static void main() { Row<Integer> r = new Row<Integer>(); r.fill(); r.all(); Out.put(2); } }", -9, "");
        puts(array + "class Main { static void main() { Row<Object> r = new Row<Object>(); r.fill(); Out.put(r.a); Out.put(r.a[0]); } }", 0, "4:99 4:0");
        puts("class Main { static <T> T id(Object o) { return (T) o; } static void main() { Out.put(1); Main.<Object>id(5); Out.put(2); Main.<Error>id(5); Out.put(3); } }", -9, "1:1 1:2");
        puts("class Main { static <T extends Error> T id(Object o) { Out.put(1); T t = (T) o; Out.put(2); return t; } static void main() { Main.<Error>id(5); } }", -9, "1:1");
    }

    /** "so is each argument and result by the erasure of the formal that a body tells (..; arguments ahead of that body's being open)". */
    private static void arguments() {
        String take = "interface Take<T> { void take(int i, T t); } class Ints implements Take<Integer> { public void take(int i, Integer t) { Out.put(i); } } ";
        puts(take + "class Main { static void main() { Take<Integer> t = new Ints(); t.take(1, 5); t.take(2, null); } }", 0, "1:1 1:2");
        FrontHouse x = House.taken(take + "class Main { static void main() { Take<Object> t = (Take<Object>) (Object) new Ints(); t.take(1, 5); t.take(2, 'a'); } }");
        House.same("run", x.run(100, 100), 1);
        House.same("thrown", x.about(1), -9);
        House.same("steps", x.about(2), 2 + 1 + 2 + 1 + 2 + 1);
        House.same("most bodies", x.about(5), 2);
        House.same("entries", x.about(4), 1);
        puts(take + "class Main { static void main() { Take<Object> t = (Take<Object>) (Object) new Ints(); try { t.take(1, 'a'); } catch (ClassCastException e) { Out.put(9); } t = null; t.take(1, 'a'); } }", -11, "1:9");
    }

    /** "A kind is started [12.4.1] by new of it, a call of a static method, a static field that is no constant; what starts is as in [12.4.2]". */
    private static void starts() {
        String a = "class A { static int x = Main.p(1); static final int K = 5; static final Integer L = Main.p(2); static int y; static int f() { return 1; } int z; } class B extends A { static int w = Main.p(3); static final int M = K + 1; } ";
        String head = a + "class Main { static int p(int i) { Out.put(i); return i; } static void main() { Out.put(0); ";
        puts(head + "Out.put(A.K); Out.put(B.K + B.M); } }", 0, "1:0 1:5 1:11");
        puts(head + "Out.put(A.y); } }", 0, "1:0 1:1 1:2 1:0");
        puts(head + "A.y = p(9); } }", 0, "1:0 1:9 1:1 1:2");
        puts(head + "A.y += p(9); } }", 0, "1:0 1:1 1:2 1:9");
        puts(head + "int i = A.f(); i = A.f(); } }", 0, "1:0 1:1 1:2");
        puts(head + "int i = B.f(); } }", 0, "1:0 1:1 1:2");
        puts(head + "int i = B.y; } }", 0, "1:0 1:1 1:2");
        puts(head + "int i = B.w; } }", 0, "1:0 1:1 1:2 1:3");
        puts(head + "Object o = new B(); } }", 0, "1:0 1:1 1:2 1:3");
        puts(head + "Object o = new A[3]; A q = null; boolean z = o instanceof B; o = (B) q; } }", 0, "1:0");
        puts(head + "A q = null; Out.put(q.K); Out.put(4); Out.put(q.y); } }", 0, "1:0 1:5 1:4 1:1 1:2 1:0");
        puts(head + "Out.put(A.L == 2); } }", 0, "1:0 1:1 1:2 0:1");
        puts("class Main extends P { static int x = p(2); static int p(int i) { Out.put(i); return i; } static void main() { Out.put(3); } } class P { static int y = Main.p(1); }", 0, "1:1 1:2 1:3");
        puts("class A { static int x = B.y + 1; } class B { static int y = A.x + 10; } class Main { static void main() { Out.put(B.y); Out.put(A.x); } }", 0, "1:11 1:1");
        puts("class A { static int x = 1 / Main.n; static int y = 1; } class Main { static int n; static void main() { try { Out.put(A.y); } catch (ExceptionInInitializerError e) { Out.put(e); } try { A.y = 5; } catch (NoClassDefFoundError e) { Out.put(e); } try { new A(); } catch (NoClassDefFoundError e) { Out.put(2); } } }", 0, "4:88 4:87 1:2");
        puts("class E extends Error { } class A { static int x = f(); static int f() { throw new E(); } } class Main { static void main() { try { Out.put(A.x); } catch (E e) { Out.put(1); } Out.put(A.x); } }", -13, "1:1");
        puts("class P { static int x = 1 / Main.n; } class A extends P { static int y; } class Main { static int n; static void main() { try { Out.put(A.y); } catch (ExceptionInInitializerError e) { Out.put(1); } try { Out.put(A.y); } catch (NoClassDefFoundError e) { Out.put(2); } try { Out.put(P.x); } catch (NoClassDefFoundError e) { Out.put(3); } } }", 0, "1:1 1:2 1:3");
    }

    /** [12.5]: an object's fields are there with 0, then its parent's body, then its initial values, then its own body. */
    private static void objects() {
        puts("class P { int a = 1; P() { Out.put(a); m(); } void m() { Out.put(a); } } class A extends P { int b = 2; final int c = 3; final int d = b + 1; A() { Out.put(b); m(); } void m() { Out.put(b); Out.put(c); Out.put(d); } } class Main { static void main() { new A(); } }", 0,
            "1:1 1:0 1:3 1:0 1:2 1:2 1:3 1:3");
        puts("class A { int x = p(1); A(int i) { p(2); } A() { this(p(3)); p(4); } int y = p(5); static int p(int i) { Out.put(i); return i; } } class Main { static void main() { new A(); } }", 0, "1:3 1:1 1:5 1:2 1:4");
        puts("class P { int x = 1; int get() { return x; } static int s() { return 1; } } class A extends P { int x = 2; int get() { return x + super.x * 10 + super.get() * 100; } static int s() { return 2; } } class Main { static void main() { P p = new A(); Out.put(p.x); Out.put(((A) p).x); Out.put(p.get()); Out.put(p.s()); Out.put(((A) p).s()); } }", 0,
            "1:1 1:2 1:112 1:1 1:2");
        puts("class P { private int m() { return 1; } int n() { return m(); } } class A extends P { int m() { return 2; } } class Main { static void main() { Out.put(new A().n()); } }", 0, "1:1");
    }

    public static void main(String[] args) {
        operands();
        conversions();
        nulls();
        finallyBlocks();
        looks();
        arguments();
        starts();
        objects();
        House.end("the order of things");
    }
}
