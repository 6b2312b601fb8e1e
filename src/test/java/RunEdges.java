/** Part VI of the document: STEPS, CELLS, CUT, FULL, DEEP, Out, In and starts, each at its edge and beside it. */
public final class RunEdges {

    private static String main(String body) {
        return "class Main { static int n; static int[] r; static int f(int x) { return x; } static void main() { " + body + " } }";
    }

    /**
     * A text that ends by itself after so many steps and cells: with just as many it does, with one step less
     * it is CUT, with one cell less it is FULL.
     */
    private static void needs(String text, int end, int steps, int cells) {
        FrontHouse x = House.taken(text);
        House.same("end of " + text, x.run(50000, 20000), end);
        House.same("steps of " + text, x.about(2), steps);
        House.same("cells of " + text, x.about(3), cells);
        House.same("with just as many: " + text, x.run(steps, Math.max(1, cells)), end);
        House.same("steps", x.about(2), steps);
        House.same("cells", x.about(3), cells);
        if (steps > 1) {
            House.same("one step less: " + text, x.run(steps - 1, 20000), 2);
            House.same("how it ended", x.about(0), 2);
            House.same("nothing thrown", x.about(1), 0);
            House.same("steps when it is CUT", x.about(2), steps - 1);
        }
        if (cells > 1) {
            House.same("one cell less: " + text, x.run(50000, cells - 1), 3);
            House.same("how it ended", x.about(0), 3);
            House.same("cells when it is FULL", x.about(3) < cells ? 1 : 0, 1);
        }
    }

    /** Statements in main: STEPS and CELLS besides those of Main's start and of main's body. */
    private static void in(String body, int steps, int cells) {
        needs(main(body), 0, 2 + steps, cells);
    }

    private static void statements() {
        in("", 0, 0);
        in(";", 1, 0);
        in(";;", 2, 0);
        in("{ }", 0, 0);
        in("{ ; { ; } }", 2, 0);
        in("a: ;", 1, 0);
        in("a: b: { ; }", 1, 0);
        in("int x;", 1, 0);
        in("int x = 1, y = 2, z;", 1, 0);
        in("n = 1; n++;", 2, 0);
        in("if (n == 0) ;", 2, 0);
        in("if (n == 1) ;", 1, 0);
        in("if (n == 1) ; else { ; ; }", 3, 0);
        in("return;", 1, 0);
        in("a: break a;", 1, 0);
        in("switch (n) { }", 1, 0);
        in("switch (n) { case 0: ; ; case 1: ; }", 4, 0);
        in("switch (n) { case 1: ; default: ; }", 2, 0);
        in("switch (n) { case 1: ; }", 1, 0);
        in("try { ; } finally { ; }", 3, 0);
        in("try { } finally { }", 1, 0);
        in("try { throw new Error(); } catch (Error e) { ; }", 3, 1);
        in("try { n = 1 / n; } catch (ArithmeticException e) { } finally { ; }", 3, 1);
    }

    /** "each time a loop's condition is asked (of for each: whether there is one more; .. a for's that is not told, too)". */
    private static void loops() {
        in("while (n > 0) ;", 2, 0);
        in("while (n < 1) n++;", 4, 0);
        in("while (n < 2) { n++; }", 6, 0);
        in("do n++; while (n < 1);", 3, 0);
        in("do n++; while (n < 2);", 5, 0);
        in("do { } while (false);", 2, 0);
        in("for (; n > 0; ) ;", 2, 0);
        in("for (int i = 0; i < 1; i++) ;", 4, 0);
        in("for (n = 1, n = 2; n < 4; n++, n++) { }", 3, 0);
        in("for (;;) break;", 3, 0);
        in("for (;;) { if (n++ > 0) break; }", 6, 0);
        in("for (int i : new int[0]) ;", 2, 2);
        in("for (int i : new int[1]) ;", 4, 3);
        in("for (int i : new int[2]) { }", 4, 4);
        in("while (true) { if (n++ > 0) break; continue; }", 1 + 2 + 1 + 2 + 1, 0);
        in("a: for (;;) { while (true) { break a; } }", 5, 0);
        needs(main("for (int i : r) ;"), 1, 3, 1);
    }

    /** "each body of a method, of a constructor (also one that is not told) and of a class's start that begins (..)". */
    private static void bodies() {
        in("f(1);", 3, 0);
        in("f(f(1));", 5, 0);
        needs("class Main { static void main() { } }", 0, 2, 0);
        needs("class Main { static int x; static void main() { } }", 0, 2, 0);
        needs("class A { } class Main { static void main() { new A(); } }", 0, 5, 1);
        needs("class A { A() { } } class Main { static void main() { new A(); } }", 0, 5, 1);
        needs("class A { A() { super(); } } class Main { static void main() { new A(); } }", 0, 6, 1);
        needs("class A { A() { this(1); } A(int x) { } } class Main { static void main() { new A(); } }", 0, 7, 1);
        needs("class P { } class A extends P { } class Main { static void main() { new A(); } }", 0, 7, 1);
        needs("class P { } class A extends P { } class Main { static void main() { new P(); new A(); } }", 0, 2 + 3 + 4, 2);
        needs("class A { static void f() { } } class Main { static void main() { A.f(); A.f(); } }", 0, 2 + 1 + 4, 0);
        needs("class A { static int x; } class Main { static void main() { A.x = 1; A.x++; } }", 0, 5, 0);
        needs("class A { static final int X = 1; } class Main { static void main() { int y = A.X; } }", 0, 3, 0);
        needs("class Main { static void main() { new Object(); new Error(); } }", 0, 4, 2);
        needs("class P { } class Main extends P { static void main() { } }", 0, 3, 0);
        needs("class A { int x = f(), y = 2; int f() { return 1; } } class Main { static void main() { new A(); } }", 0, 7, 3);
        needs("interface I { } class A implements I { } class Main { static void main() { new A(); } }", 0, 5, 1);
        needs("class A { static int x = 1; static int f() { return x; } } class B extends A { } class Main { static void main() { n(B.x + B.f()); } static void n(int x) { } }", 0, 2 + 1 + 1 + 2 + 1, 0);
    }

    /** "an object 1 and 1 for each field of it (..), an array 2 and its length (..), a box 1 as it first comes". */
    private static void cells() {
        needs("class P { int a; static int s; private int b; } class A extends P { int c; } class Main { static void main() { new A(); } }", 0, 7, 4);
        in("Object o = new int[0];", 1, 2);
        in("Object o = new int[1];", 1, 3);
        in("Object o = new int[0][5];", 1, 2);
        in("Object o = new int[2][0];", 1, 8);
        in("Object o = new int[2][1][];", 1, 4 + 2 * 3);
        in("Object o = new int[2][1][3];", 1, 4 + 2 * (3 + 5));
        in("Object o = new int[3][];", 1, 5);
        in("int[][] o = { { }, { 1 }, null };", 1, 5 + 2 + 3);
        in("Integer i = 1;", 1, 1);
        in("Integer i = 1, j = 1, k = 1 + f(0);", 3, 1);
        in("Integer i = 1, j = 2; Byte b = 1; Short s = 1; Character c = 1; Long l = 1L; Boolean z = true, y = true, x = false;", 6, 8);
        in("Object o = 1, p = 1, q = 1L; Integer i = 1000, j = 1000;", 2, 3);
        in("Integer i = 1; i++; i--;", 3, 2);
        in("Object o = null; Integer i = null;", 2, 0);
        needs("class A { static void f(int... x) { } } class Main { static void main() { A.f(); A.f(1); A.f(null); } }", 0, 2 + 3 + 3 + 1, 2 + 3);
        needs(main("n = 1 / n;"), 1, 3, 1);
        needs(main("n = r[0];"), 1, 3, 1);
        needs(main("n = new int[n - 1].length;"), 1, 3, 1);
        needs(main("Object o = new int[1][n - 1];"), 1, 3, 1);
        needs(main("Object o = new int[n - 1][50000];"), 1, 3, 1);
    }

    /** "boxes of one class with one value are one object"; "Nothing is given back". */
    private static void boxes() {
        FrontHouse x = House.taken(main("Integer i = 1000, j = 999 + f(1); Out.put(i == j); j++; Out.put(i == j); Object o = 1, p = (byte) 1, q = 1L, s = 1; Out.put(o == p); Out.put(o == q); Out.put(o == s); Long l = -9223372036854775808L, m = l; Out.put(l == m); Boolean b = true, c = n == 0; Out.put(b == c);"));
        House.same("run", x.run(50000, 20000), 0);
        int[] same = {1, 0, 0, 0, 1, 1, 1};
        for (int i = 0; i < same.length; i++) {
            House.same("pair " + i, x.out(i, 1), same[i]);
        }
        House.same("cells", x.about(3), 2 + 3 + 1 + 1);
        x = House.taken(main("for (;;) new Object();"));
        House.same("run", x.run(50000, 20000), 3);
        House.same("cells", x.about(3), 20000);
        House.same("steps", x.about(2), 2 + 1 + 2 * 20001);
        x = House.taken(main("for (int i = 0; ; i++) { Object o = i; }"));
        House.same("run", x.run(50000, 100), 3);
        House.same("cells", x.about(3), 100);
        x = House.taken(main("for (int i = 0; ; i++) { Object o = i % 100; }"));
        House.same("run", x.run(50000, 100), 2);
        House.same("cells", x.about(3), 100);
    }

    /** "When there would be more than told, the run ends: FULL"; what was there till then is told. */
    private static void full() {
        FrontHouse x = House.taken(main("Object o = new int[19998];"));
        House.same("just 20,000", x.run(50000, 20000), 0);
        House.same("cells", x.about(3), 20000);
        x = House.taken(main("Object o = new int[19999];"));
        House.same("one too many", x.run(50000, 20000), 3);
        House.same("cells", x.about(3), 0);
        x = House.taken(main("Object o = new int[2147483647];"));
        House.same("far too many", x.run(50000, 20000), 3);
        x = House.taken(main("Object o = new int[2147483647][2147483647];"));
        House.same("far too many", x.run(50000, 20000), 3);
        x = House.taken(main("Object o = new int[3][4];"));
        House.same("some of the rows", x.run(50000, 5 + 6 + 6), 3);
        House.same("cells", x.about(3), 17);
        House.same("all of the rows", x.run(50000, 23), 0);
        x = House.taken("class A { int a; A(int x) { } static int f() { Out.put(1); return 1; } } class Main { static void main() { new A(A.f()); } }");
        House.same("the object is there ahead of its arguments", x.run(50000, 1), 3);
        House.same("nothing put", x.about(4), 0);
        House.same("the object and its field", x.run(50000, 2), 0);
        x = House.taken(main("Object o = 1; n = 1 / n;"));
        House.same("no cell for what is thrown", x.run(50000, 1), 3);
        House.same("nothing thrown", x.about(1), 0);
        House.same("one for each", x.run(50000, 2), 1);
        x = House.taken(main("try { n = 1 / n; } catch (ArithmeticException e) { } finally { Out.put(2); }"));
        House.same("FULL isn't caught", x.run(50000, 1), 0);
        x = House.taken(main("try { Object o = new int[5]; } catch (Throwable e) { Out.put(1); } finally { Out.put(2); }"));
        House.same("FULL isn't caught", x.run(50000, 6), 3);
        House.same("nor does a finally run", x.about(4), 0);
        x = House.taken(main("try { while (true) ; } catch (Throwable e) { Out.put(1); } finally { Out.put(2); }"));
        House.same("CUT isn't caught", x.run(50000, 6), 2);
        House.same("nor does a finally run", x.about(4), 0);
        House.same("steps", x.about(2), 50000);
    }

    /** "When a 61st body would be open (a class's start stands open while its parent's runs): DEEP". */
    private static void deep() {
        String down = "static void f(int k) { if (k > 1) f(k - 1); else last(); } static void last() { } ";
        for (int k = 57; k < 61; k++) {
            FrontHouse x = House.taken("class Main { " + down + "static void main() { f(" + k + "); } }");
            int all = 1 + k + 1;
            House.same("end of " + k, x.run(50000, 20000), all > 60 ? 4 : 0);
            House.same("most bodies of " + k, x.about(5), Math.min(60, all));
            House.same("nothing thrown", x.about(1), 0);
        }
        deepBy("new Object();", 0);
        deepBy("n = In.next(); Out.put(1);", 0);
        deepBy("new A();", 1);
        deepBy("new B();", 2);
        deepBy("n = A.x;", 1);
        deepBy("n = B.y;", 2);
        deepBy("n = C.z;", 3);
        deepBy("n = B.K;", 0);
        deepBy("B.g();", 2);
        FrontHouse x = House.taken("class Main { static void f() { f(); } static void main() { try { f(); } catch (Throwable e) { Out.put(1); } finally { Out.put(2); } } }");
        House.same("DEEP isn't caught", x.run(50000, 20000), 4);
        House.same("nor does a finally run", x.about(4), 0);
        House.same("bodies", x.about(5), 60);
    }

    /** A statement that opens so many bodies more, one in another. */
    private static void deepBy(String what, int more) {
        String kinds = "class A { static int x = 1; } class B extends A { static int y = 1; static final int K = 2; static void g() { } } class C extends B { static int z; } ";
        for (int k = 55; k < 60; k++) {
            FrontHouse x = House.taken(kinds + "class Main { static int n; static void f(int k) { if (k > 1) f(k - 1); else { " + what + " } } static void main() { f(" + k + "); } }");
            int all = 1 + k + more;
            House.same(what + " from " + k, x.run(50000, 20000), all > 60 ? 4 : 0);
            House.same("most bodies by " + what + " from " + k, x.about(5), Math.min(60, all));
        }
    }

    /** "At most 1,000 entries, more are lost", "put of a boolean, int, long, char: entry kind 0 .. 3 and the number; of an Object kind 4 ..". */
    private static void out() {
        for (int n = 999; n <= 1001; n++) {
            FrontHouse x = House.taken("class Main { static void main() { for (int i = 0; i < " + n + "; i++) Out.put(i); } }");
            House.same("run", x.run(50000, 1), 0);
            House.same("entries", x.about(4), Math.min(1000, n));
            House.same("first", x.out(0, 1), 0);
            House.same("entry 998", x.out(998, 1), 998);
            House.same("entry 999", x.out(999, 1), n > 999 ? 999 : 0);
            House.same("kind of entry 999", x.out(999, 0), n > 999 ? 1 : 0);
            House.same("entry 1000", x.out(1000, 1), 0);
            House.same("kind of entry 1000", x.out(1000, 0), 0);
        }
        FrontHouse x = House.taken("class A<T> { } class Main { static void main() { Out.put(false); Out.put(true); Out.put(-1); Out.put(-1L); Out.put('\\uffff'); Out.put((byte) -1); Out.put((short) 5); "
            + "Out.put(null); Out.put(new Object()); Out.put(new A<Main>()); Out.put(new Main()); Out.put(new int[1]); Out.put(new Main[1][1]); Object o = true; Out.put(o); o = (byte) 1; Out.put(o); o = (short) 1; Out.put(o); o = 'a'; Out.put(o); o = 1; Out.put(o); o = 1L; Out.put(o); Out.put(new NullPointerException()); } }");
        House.same("run", x.run(500, 500), 0);
        int[] kinds = {0, 0, 1, 2, 3, 1, 1, 4, 4, 4, 4, 4, 4, 4, 4, 4, 4, 4, 4, 4};
        long[] numbers = {0, 1, -1, -1, 65535, -1, 5, 0, 99, 100, 101, 99, 99, 86, 85, 84, 83, 82, 81, 89};
        for (int i = 0; i < kinds.length; i++) {
            House.same("kind of entry " + i, x.out(i, 0), kinds[i]);
            House.same("entry " + i, x.out(i, 1), numbers[i]);
        }
        House.same("entries", x.about(4), kinds.length);
        int[] far = {Integer.MIN_VALUE, -1, kinds.length, 1000, Integer.MAX_VALUE};
        for (int i : far) {
            House.same("out(" + i + ", 0)", x.out(i, 0), 0);
            House.same("out(" + i + ", 1)", x.out(i, 1), 0);
        }
        for (int what : new int[] {Integer.MIN_VALUE, -1, 2, 3, Integer.MAX_VALUE}) {
            House.same("out(2, " + what + ")", x.out(2, what), 0);
        }
    }

    /** "next: what is given, one after the other; 0 behind the last", "with what is given from the first on". */
    private static void in() {
        String text = "class Main { static void main() { for (int i = 0; i < 3; i++) Out.put(In.next()); } }";
        FrontHouse x = House.taken(text);
        for (int given = 0; given < 5; given++) {
            House.same("run", x.run(500, 500), 0);
            House.same("asked", x.about(6), 3);
            for (int i = 0; i < 3; i++) {
                House.same("number " + i + " of " + given, x.out(i, 1), i < given ? -7 * (i + 1) : 0);
            }
            House.same("give", x.give(-7 * (given + 1)), given + 1);
        }
        x = new FrontHouse();
        for (int i = 1; i <= 200; i++) {
            House.same("give", x.give(Integer.MAX_VALUE - i), i);
        }
        House.same("give one too many", x.give(1), -1);
        House.same("give one too many", x.give(2), -1);
        String all = "class Main { static void main() { int i = 0; for (int k = 0; k < 199; k++) i = In.next(); Out.put(i); Out.put(In.next()); Out.put(In.next()); } }";
        House.feed(x, all);
        House.same("judge", x.judge(all.length()), 0);
        House.same("run", x.run(5000, 500), 0);
        House.same("the 199th", x.out(0, 1), Integer.MAX_VALUE - 199);
        House.same("the 200th", x.out(1, 1), Integer.MAX_VALUE - 200);
        House.same("behind the last", x.out(2, 1), 0);
        House.same("asked", x.about(6), 201);
    }

    public static void main(String[] args) {
        statements();
        loops();
        bodies();
        cells();
        boxes();
        full();
        deep();
        out();
        in();
        House.end("runs");
    }
}
