/** What is told of texts that are taken, and the edges of every call. */
public final class TellTexts {
    private static void due(String what, long got, long want) {
        House.same(what, got, want);
    }

    private static void due(String what, String got, String want) {
        House.same(what, got, want);
    }

    private static void feed(FrontHouse x, String text) {
        House.feed(x, text);
    }

    private static FrontHouse taken(String text) {
        return House.taken(text);
    }

    /** Every expression of the text: its sign, type and conversion. */
    private static String all(FrontHouse x, String text) {
        StringBuilder b = new StringBuilder();
        for (int i = 0; i < x.count(3); i++) {
            int p = x.expression(i, 0);
            b.append(i == 0 ? "" : " ").append(text.charAt(p)).append(x.expression(i, 1)).append('/').append(x.expression(i, 2));
        }
        return b.toString();
    }

    private static void conversions(String members, String body, String want) {
        String text = "class A<T extends Integer> { T t; " + members + " void m(int i, long l, byte b, char c, boolean z, Integer I, Byte B, Object o) { " + body + " } }";
        FrontHouse x = taken(text);
        due(body, all(x, text), want);
    }

    private static void conversionTexts() {
        conversions("", "l = b + c;", "l5/0 =5/0 b1/1 +4/1 c3/1");
        conversions("", "l = i + l;", "l5/0 =5/0 i4/1 +5/0 l5/0");
        conversions("", "l = l << b;", "l5/0 =5/0 l5/0 <5/0 b1/1");
        conversions("", "b = 1; B = 1; I = 1; o = 1; o = I; o = null;",
            "b1/0 =1/0 14/2 B8/0 =8/0 14/8 I8/0 =8/0 14/3 o8/0 =8/0 14/4 o8/0 =8/0 I8/7 o8/0 =8/0 n7/7");
        conversions("", "i = I; l = I; i = B; i = t; I = t;",
            "i4/0 =4/0 I8/5 l5/0 =5/0 I8/6 i4/0 =4/0 B8/6 i4/0 =4/0 t9/5 I8/0 =8/0 t9/7");
        conversions("", "b = (byte) i; c = (char) b; l = (long) i; i = (int) o; I = (Integer) o; t = (T) o; o = (Object) I;",
            "b1/0 =1/0 (1/0 i4/2 c3/0 =3/0 (3/0 b1/11 l5/0 =5/0 (5/0 i4/1 i4/0 =4/0 (4/0 o8/12 I8/0 =8/0 (8/0 o8/9 t9/0 =9/0 (9/0 o8/10 o8/0 =8/0 (8/0 I8/7");
        conversions("", "c += I; I++; b <<= l; z &= true;", "c3/0 +3/0 I8/5 I8/0 +8/0 b1/0 <1/0 l5/0 z0/0 &0/0 t0/0");
        conversions("", "o = z ? i : o; l = z ? b : 1; o = z ? I : 1; I = z ? 1 : null;",
            "o8/0 =8/0 z0/0 ?8/0 i4/4 o8/0 l5/0 =5/0 z0/0 ?1/1 b1/0 14/2 o8/0 =8/0 z0/0 ?4/4 I8/5 14/0 I8/0 =8/0 z0/0 ?8/0 14/3 n7/7");
        conversions("", "switch (I) { } switch (i) { }", "I8/5 i4/0");
        conversions("", "throw new Error();", "n8/0");
        conversions("", "for (long k : new int[] { b }) ;", "n10/0 {10/0 b1/1");
        conversions("", "z = i == I; z = o == I; z = !z && o instanceof Integer[];",
            "z0/0 =0/0 i4/0 =0/0 I8/5 z0/0 =0/0 o8/0 =0/0 I8/0 z0/0 =0/0 !0/0 z0/0 &0/0 o8/0 i0/0");
    }

    private static void kindsAndMethods() {
        String text = "interface I { void p(); int q(int x); } interface J extends I { Object r(); } "
            + "abstract class A<T, U> implements J, I { private int a; int b; static int c; A(int x, int y) { int z; } private void h() { } static void s(final int... v) { } public final void p() { } } "
            + "class B extends A<Object, Error> { int d; B() { super(1, 2); } public int q(int x) { return x; } public B r() { return this; } } "
            + "class C { <X> X g(X x) { X y = x; return y; } }";
        FrontHouse x = taken(text);
        due("kinds", x.count(0), 5);
        due("methods", x.count(1), 11);
        due("fields", x.count(2), 4);
        due("place of I", x.kind(0, 0), 10);
        due("I is one", x.kind(0, 1), 1);
        due("A is none", x.kind(2, 1), 0);
        due("parent of J", x.kind(1, 2), -1);
        due("parent of B", x.kind(3, 2), 2);
        due("interfaces of J", x.kind(1, 3), 1);
        due("interfaces of A", x.kind(2, 3), 2);
        due("vars of A", x.kind(2, 4), 2);
        due("fields of I", x.kind(0, 5), 0);
        due("fields of A", x.kind(2, 5), 2);
        due("fields of B", x.kind(3, 5), 3);
        due("methods of I", x.kind(0, 6), 2);
        due("methods of J", x.kind(1, 6), 3);
        due("methods of A", x.kind(2, 6), 5);
        due("methods of B", x.kind(3, 6), 4);
        due("no such kind", x.kind(5, 0), -1);
        due("no such kind", x.kind(-1, 0), -1);
        due("no such what", x.kind(0, 7), -1);
        due("place of p", x.method(0, 0), text.indexOf("p()"));
        due("kind of s", x.method(5, 1), 2);
        due("formals of A", x.method(3, 2), 2);
        due("result of p", x.method(0, 3), 6);
        due("result of q", x.method(1, 3), 4);
        due("result of r", x.method(2, 3), 8);
        due("result of A", x.method(3, 3), 6);
        due("result of g", x.method(10, 3), 9);
        due("flags of p in I", x.method(0, 4), 2);
        due("flags of s", x.method(5, 4), 9);
        due("flags of p in A", x.method(6, 4), 4);
        due("locals of A", x.method(3, 5), 3);
        due("locals of g", x.method(10, 5), 2);
        due("no such method", x.method(11, 0), -1);
        due("no such what", x.method(0, 6), -1);
        due("B does p by", x.serves(3, 0), 6);
        due("B does q by", x.serves(3, 1), 8);
        due("B does r by", x.serves(3, 2), 9);
        due("A is abstract", x.serves(2, 0), -1);
        due("I is one", x.serves(0, 0), -1);
        due("s is static", x.serves(3, 5), -1);
        due("h is private", x.serves(3, 4), -1);
        due("B is built", x.serves(3, 7), -1);
        due("C hasn't it", x.serves(4, 0), -1);
        due("no such", x.serves(5, 0), -1);
        due("no such", x.serves(3, 11), -1);
        int y = text.indexOf("x; return y");
        for (int i = 0; i < x.count(3); i++) {
            if (x.expression(i, 0) == y) {
                due("a var", x.expression(i, 1), 9);
                due("vars ahead of X", x.expression(i, 4), 2);
            }
        }
    }

    private static void calls() {
        String text = "class A { A() { this(1); } A(int i) { super(); } private void f() { } void g(long x) { f(); g(1); Out.put(1); new Object(); new A(2); new B(); } static void h(Object... o) { h(1, 2); } } class B { }";
        FrontHouse x = taken(text);
        StringBuilder b = new StringBuilder();
        for (int i = 0; i < x.count(4); i++) {
            b.append(i == 0 ? "" : " ").append(text.charAt(x.call(i, 0))).append(x.call(i, 1)).append('/').append(x.call(i, 2)).append('/').append(x.call(i, 3));
        }
        due("calls", b.toString(), "t1/1/1 s-101/1/1 f2/1/1 g3/1/2 p-2/1/0 n-101/1/1 n1/1/1 n-201/1/1 h4/3/0");
        due("no such call", x.call(9, 0), -1);
        due("no such what", x.call(0, 4), -1);
    }

    private static void constants() {
        String text = "class A { static final int K = 1 + B.N, M = 5 * 2; static int L() { return M; } boolean b = 1 < 2; long l = -9223372036854775808L; char c = 'a' + 1; int q = A.M; int r = this.s; final int s = 1 / 0; }";
        text = text + " class B { static final byte N = A.M; }";
        FrontHouse x = taken(text);
        StringBuilder b = new StringBuilder();
        for (int i = 0; i < x.count(3); i++) {
            if (x.expression(i, 3) == 1) {
                b.append(' ').append(text.charAt(x.expression(i, 0))).append(x.constant(i));
            } else {
                due("no constant", x.constant(i), 0);
            }
        }
        due("constants", b.toString(), " 11 +11 N10 55 *10 22 M10 11 <1 22 -" + Long.MIN_VALUE + " 9" + Long.MIN_VALUE + " '97 +98 11 M10 11 00 M10");
        due("constants", x.count(6), 19);
        due("no such", x.constant(-1), 0);
        due("no such", x.constant(1000), 0);
    }

    private static void edges() {
        FrontHouse x = new FrontHouse();
        due("NONE", FrontHouse.NONE, -1);
        due("fault ahead of any", x.fault(0), -1);
        due("fault ahead of any", x.fault(1), -1);
        for (int i = 0; i < 7; i++) {
            due("count without a text", x.count(i), 0);
            due("about without a run", x.about(i), -1);
        }
        due("count", x.count(7), -1);
        due("count", x.count(-1), -1);
        due("kind", x.kind(0, 0), -1);
        due("out", x.out(0, 0), 0);
        due("run", x.run(1, 1), -1);
        due("judge", x.judge(-1), -1);
        due("judge", x.judge(1), -1);
        due("fault", x.fault(0), -1);
        due("judge", x.judge(0), 0);
        due("fault", x.fault(0), 0);
        due("fault", x.fault(1), -1);
        due("fault", x.fault(2), -1);
        for (int i = 1; i <= 150; i++) {
            due("feed", x.feed(0x20202020, 0x20202020, 0x20202020, 0x20202020, 0x20202020), i * 20);
        }
        due("feed", x.feed(0, 0, 0, 0, 0), -1);
        due("judge", x.judge(3001), -1);
        due("judge", x.judge(3000), 0);
        due("tape", x.judge(1), -1);
        for (int i = 1; i <= 200; i++) {
            due("give", x.give(i), i);
        }
        due("give", x.give(1), -1);
        feed(x, "class Main { static void main() { Out.put(In.next()); } }");
        due("judge", x.judge(57), 0);
        due("run", x.run(0, 1), -1);
        due("run", x.run(1, 0), -1);
        due("run", x.run(50001, 1), -1);
        due("run", x.run(1, 20001), -1);
        due("about", x.about(0), -1);
        due("run", x.run(50000, 20000), 0);
        due("run", x.run(50000, 20000), 0);
        due("about", x.about(6), 1);
        due("about", x.about(7), -1);
        due("out", x.out(0, 1), 1);
        due("out", x.out(0, 2), 0);
        feed(x, "class A { } class A { }");
        due("judge", x.judge(23), 30);
        due("fault", x.fault(0), 30);
        due("fault", x.fault(1), 18);
        due("what stays", x.count(1), 1);
        due("what stays", x.out(0, 1), 1);
        due("what stays", x.about(0), 0);
        due("what stays", x.run(50000, 20000), 0);
        feed(x, "class Main { static <T> void main() { } void main(int x) { } }");
        due("judge", x.judge(62), 0);
        due("about", x.about(0), -1);
        due("out", x.out(0, 1), 0);
        due("no such main", x.run(50000, 20000), -1);
    }

    private static void lost() {
        FrontHouse x = taken("class Main { static void main() { for (int i = 0; i < 1001; i++) Out.put(i); } }");
        due("run", x.run(50000, 1), 0);
        due("entries", x.about(4), 1000);
        due("last", x.out(999, 1), 999);
        due("lost", x.out(1000, 1), 0);
    }

    public static void main(String[] args) {
        conversionTexts();
        kindsAndMethods();
        calls();
        constants();
        edges();
        lost();
        House.end("texts of which all is told");
    }
}
