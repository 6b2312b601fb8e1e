/** Texts that run: how each ends, its steps, cells and open bodies, and what it puts out. */
public final class RunTexts {
    private static final int[] ASKED = {0, 1, 2, 3, 5};

    /** due: how it ended, kind thrown, steps, cells, most bodies (-9 is not asked); out: kind:number .. */
    private static void due(String text, int steps, int cells, int[] due, String out) {
        FrontHouse x = House.taken(text);
        x.give(7);
        x.give(-2);
        House.same("run of " + text, x.run(steps, cells), due[0]);
        for (int i = 0; i < ASKED.length; i++) {
            if (due[i] != -9) {
                House.same("about(" + ASKED[i] + ") of " + text, x.about(ASKED[i]), due[i]);
            }
        }
        StringBuilder put = new StringBuilder();
        for (int i = 0; i < x.about(4); i++) {
            put.append(i == 0 ? "" : " ").append(x.out(i, 0)).append(':').append(x.out(i, 1));
        }
        House.same("what is put by " + text, put.toString(), out);
    }

    private static String main(String body) {
        return "class Main { static int n; static int f(int i) { n = n * 10 + i; return i; } static void main() { " + body + " } }";
    }

    private static void ends(int end, int thrown, String body) {
        due(main(body), 50000, 20000, new int[] {end, thrown, -9, -9, -9}, "");
    }

    private static void puts(String body, String out) {
        due(main(body), 50000, 20000, new int[] {0, 0, -9, -9, -9}, out);
    }

    private static void counts(String body, int steps, int cells) {
        due(main(body), 50000, 20000, new int[] {0, 0, steps, cells, -9}, "");
    }

    private static void steps() {
        counts("", 2, 0);
        counts(";", 3, 0);
        counts("{ { ; } }", 3, 0);
        counts("a: b: ;", 3, 0);
        counts("int i = 1, j = 2;", 3, 0);
        counts("for (int i = 0; i < 2; i++) ;", 8, 0);
        counts("for (;;) break;", 5, 0);
        counts("int i = 0; while (i < 2) i++;", 9, 0);
        counts("int i = 0; do i++; while (i < 2);", 8, 0);
        counts("for (int i : new int[] { 1, 2 }) ;", 8, 4);
        counts("if (n == 0) n = 1; else n = 2;", 4, 0);
        counts("switch (n) { case 0: n = 1; default: n = 2; }", 5, 0);
        counts("try { n = 1; } finally { n = 2; }", 5, 0);
        counts("f(1);", 6, 0);
        due("class B { } class A extends B { A() { super(); } } class Main { static void main() { new A(); } }", 99, 99,
            new int[] {0, 0, 8, 1, 3}, "");
        due("class B { } class A extends B { int x = 1; A(int i) { } A() { this(1); } } class Main { static void main() { new A(); } }",
            99, 99, new int[] {0, 0, 9, 2, 4}, "");
        due(main("while (true) ;"), 7, 9, new int[] {2, 0, 7, 0, 1}, "");
        due(main(""), 1, 9, new int[] {2, 0, 1, 0, 1}, "");
        due(main(""), 2, 9, new int[] {0, 0, 2, 0, 1}, "");
    }

    private static void cells() {
        counts("Object o = new Object();", 3, 1);
        counts("Object o = new int[3];", 3, 5);
        counts("Object o = new int[2][3];", 3, 14);
        counts("Object o = new int[2][];", 3, 4);
        counts("Integer i = 1, j = 1; Byte b = 1; Object o = 1; o = true; o = true;", 7, 3);
        due(main("Object o = new int[5];"), 99, 6, new int[] {3, 0, 3, 0, 1}, "");
        due(main("Object o = new int[2][3];"), 99, 10, new int[] {3, 0, 3, 9, 1}, "");
        due(main("int i = 1 / n;"), 99, 1, new int[] {1, -6, 3, 1, 1}, "");
        due(main("Object o = 1; int i = 1 / n;"), 99, 1, new int[] {3, 0, 4, 1, 1}, "");
        due("class A { int a, b; static int c; } class B extends A { int d; } class Main { static void main() { new B(); } }", 99, 99,
            new int[] {0, 0, 7, 4, 3}, "");
        due("class A { A(Object o) { } } class Main { static void main() { new A(new Object()); } }", 99, 1,
            new int[] {3, 0, 4, 1, 2}, "");
        due("class A { static void f(int... x) { } } class Main { static void main() { A.f(); A.f(1, 2); } }", 99, 99,
            new int[] {0, 0, 7, 6, 2}, "");
    }

    private static void deep() {
        String down = "class Main { static int n; static void down() { n++; Out.put(n); down(); } static void main() { down(); } }";
        due(down, 50000, 99, new int[] {4, 0, -9, 0, 60}, numbers(59));
        StringBuilder b = new StringBuilder();
        for (int i = 0; i < 20; i++) {
            b.append("class K").append(i).append(i > 0 ? " extends K" + (i - 1) : "").append(" { static int x = 1 + Main.n; } ");
        }
        due(b + "class Main { static int n = 1; static void main() { Out.put(K19.x); } }", 99, 99, new int[] {0, 0, 23, 0, 21}, "1:2");
    }

    private static String numbers(int n) {
        StringBuilder b = new StringBuilder();
        for (int i = 1; i <= n; i++) {
            b.append(i == 1 ? "" : " ").append("1:").append(i);
        }
        return b.toString();
    }

    private static void thrown() {
        ends(1, -6, "n = 1 / n;");
        ends(1, -6, "long l = 1L % n;");
        ends(1, -7, "int[] a = new int[2]; a[2] = 1;");
        ends(1, -7, "int[] a = { }; n = a[-1];");
        ends(1, -8, "Object[] a = new Integer[1]; a[0] = true;");
        ends(1, -9, "Object o = 1; Byte b = (Byte) o;");
        ends(1, -10, "int[] a = new int[f(-1)];");
        ends(1, -11, "int[] a = null; n = a.length;");
        ends(1, -11, "Integer i = null; n = i;");
        ends(1, -11, "throw null;");
        ends(1, -11, "int[] a = null; for (int i : a) ;");
        ends(1, -3 - 2, "throw new RuntimeException();");
        due("class E extends Error { } class Main { static void main() { throw new E(); } }", 99, 99, new int[] {1, 0, 5, 1, 2}, "");
        due("class A { static int x = 1 / (A.x + 0); } class Main { static void main() { try { Out.put(A.x); } catch (ExceptionInInitializerError e) { Out.put(e); } try { Out.put(A.x); } catch (NoClassDefFoundError e) { Out.put(e); } } }",
            99, 99, new int[] {0, 0, 9, 3, 2}, "4:88 4:87");
        due("class Main { static int x = 1 / (Main.x + 0); static void main() { } }", 99, 99, new int[] {1, -12, 1, 2, 1}, "");
        due("class A { static int x = f(); static int f() { throw new Error(); } } class B extends A { static int y = 1 + x; } class Main { static void main() { try { Out.put(B.y); } catch (Error e) { Out.put(e); } try { Out.put(B.y); } catch (Error e) { Out.put(e); } try { Out.put(A.x); } catch (Error e) { Out.put(e); } } }",
            99, 99, new int[] {0, 0, -9, 3, 4}, "4:96 4:87 4:87");
        puts("try { n = 1 / n; } catch (ArithmeticException e) { Out.put(1); } finally { Out.put(2); }", "1:1 1:2");
        puts("a: while (true) { try { break a; } finally { Out.put(1); } } Out.put(2);", "1:1 1:2");
        puts("for (int i = 0; i < 2; i++) { try { continue; } finally { Out.put(i); } }", "1:0 1:1");
        puts("try { try { throw new Error(); } finally { Out.put(1); } } catch (Error e) { Out.put(2); }", "1:1 1:2");
        due("class Main { static int g() { while (true) { try { return 1; } finally { break; } } return 2; } static int h() { int t = 0; try { return t; } finally { t = 5; while (true) { try { return t; } finally { break; } } } } static void main() { Out.put(g()); Out.put(h()); } }",
            99, 99, new int[] {0, 0, -9, 0, 2}, "1:2 1:0");
    }

    private static void values() {
        puts("Out.put(true); Out.put(1); Out.put(2L); Out.put('c'); Out.put(null); Out.put(new int[0]); Out.put(new Main()); Out.put((Object) 1);",
            "0:1 1:1 2:2 3:99 4:0 4:99 4:100 4:82");
        puts("byte b = 1; Out.put(b); short s = -3; Out.put(s);", "1:1 1:-3");
        puts("Out.put(In.next()); Out.put(In.next()); Out.put(In.next());", "1:7 1:-2 1:0");
        puts("int i = 2147483647; i++; Out.put(i); long l = i; l--; Out.put(l); char c = 0; c--; Out.put(c); byte b = 127; b++; Out.put(b);",
            "1:-2147483648 2:-2147483649 3:65535 1:-128");
        puts("Out.put(1 << 33); Out.put(-1 >>> 28); Out.put(-8 >> 1); Out.put(1L << 33); Out.put(-7 / 2); Out.put(-7 % 2); Out.put(~5);",
            "1:2 1:15 1:-4 2:8589934592 1:-3 1:-1 1:-6");
        puts("int x = 1; x = x++ + ++x; Out.put(x); int[] a = { 1, 2, 3 }; int i = 0; a[i++] = a[i] + i; Out.put(a[0]); a[i] += i = 2; Out.put(a[1]);",
            "1:4 1:3 1:4");
        puts("int[] a = null; try { a[f(1)] = f(2); } catch (NullPointerException e) { Out.put(n); } n = 0; try { a[f(1)] += f(2); } catch (NullPointerException e) { Out.put(n); }",
            "1:12 1:1");
        puts("Integer i = 127, j = 127; Out.put(i == j); i++; Out.put(i == 128); Long l = 5L; l += i; Out.put(l == 133); Boolean b = true; b &= false; Out.put((boolean) b);",
            "0:1 0:1 0:1 0:0");
        puts("Integer i = null; try { n = i + f(1); } catch (NullPointerException e) { Out.put(n); }", "1:0");
        puts("switch (2) { case 1: Out.put(1); default: Out.put(2); case 3: Out.put(3); }", "1:2 1:3");
        puts("Object o = new int[1][1]; Out.put(o instanceof int[][]); Out.put(o instanceof Object[]); Out.put(o instanceof int[]); Out.put(null instanceof Object);",
            "0:1 0:1 0:0 0:0");
        due("class A { int x = 5; A() { show(); } void show() { Out.put(x); } } class B extends A { int y = 6; final int z = 7; void show() { Out.put(y); Out.put(z); Out.put(this.z); super.show(); } } class Main { static void main() { new B().show(); } }",
            99, 99, new int[] {0, 0, -9, 4, 5}, "1:0 1:7 1:7 1:5 1:6 1:7 1:7 1:5");
    }

    private static void generics() {
        String row = "class Row<T> { T t; T get() { return t; } void set(T t) { this.t = t; } } ";
        due(row + "class Main { static void main() { Row<Integer> r = new Row<Integer>(); r.set(5); Out.put(r.get() + r.t); Row<Error> e = (Row<Error>) (Object) r; Out.put(1); e.get(); } }",
            99, 99, new int[] {1, -9, -9, -9, -9}, "1:10 1:1");
        due("interface C<T> { void take(T t); } class D implements C<Integer> { public void take(Integer i) { Out.put(i + 1); } } class Main { static void main() { D d = new D(); C<Integer> c = d; c.take(3); C<Object> o = (C<Object>) (Object) d; o.take(true); } }",
            99, 99, new int[] {1, -9, -9, -9, 2}, "1:4");
        due("class A<T extends Integer> { T t; void f() { t++; t += 2; Out.put(t + 1); } } class Main { static void main() { A<Integer> a = new A<Integer>(); a.t = 1; a.f(); } }",
            99, 99, new int[] {0, 0, -9, -9, 2}, "1:5");
        due("class A { static <T> T id(T t) { return t; } } class Main { static void main() { Out.put(A.<Integer>id(4) + 1); } }",
            99, 99, new int[] {0, 0, -9, 1, 2}, "1:5");
    }

    private static void starts() {
        due("class A { static int x = 3; static final int K = 4;  }"
            + " class Main { static void main() { Out.put(A.K); Out.put(1); Out.put(A.x); } }", 99, 99, new int[] {0, 0, 6, 0, 2}, "1:4 1:1 1:3");
        due("class P { static int a = put(1); static int put(int i) { Out.put(i); return i; } } class Q extends P { static int b = put(2); } class Main { static void main() { Out.put(Q.a); Out.put(Q.b); } }",
            99, 99, new int[] {0, 0, -9, 0, 3}, "1:1 1:1 1:2 1:2");
        due("class A { static int x = B.y + 1; } class B { static int y = A.x + 1; } class Main { static void main() { Out.put(A.x); Out.put(B.y); } }",
            99, 99, new int[] {0, 0, 6, 0, 3}, "1:2 1:1");
    }

    public static void main(String[] args) {
        steps();
        cells();
        deep();
        thrown();
        values();
        generics();
        starts();
        House.end("texts that run");
    }
}
