/** Faults 48 and 50 to 54: what may be assigned, switches, jumps, casts, void calls, conditionals; and what has no type. */
public final class PlaceEdges {

    /** 48: "an assignment, ++, -- to what is no variable (a name or field that means nothing aside), or length". */
    private static void noVariable() {
        String[] numbers = {"1", "f(1)", "(n + 1)", "-n", "n++", "(int) n", "(n = 1)", "(n > 1 ? n : n)"};
        for (String e : numbers) {
            House.object(48, e + " `= 1;");
            House.object(48, e + " `+= 1;");
        }
        String[] others = {"new A()", "this", "null", "new int[1]", "true"};
        for (String e : others) {
            House.object(48, e + " `= 1;");
            House.object(42, e + " `+= 1;");
        }
        House.object(48, "f(1)`++;");
        House.object(48, "`++f(1);");
        House.object(48, "n++`++;");
        House.object(48, "`++(n + 1);");
        House.object(48, "`-- -n;");
        House.object(48, "`--++n;");
        House.object(0, "n = 1; (n) = 1; ((n))++; ++(n); this.n = 1; (this.n) = 2; (this).n++; new A().n = 1; (new int[1])[0] = 1; f(n = 1);");
        House.object(48, "int[] a = null; a.length `= 1;");
        House.object(48, "int[] a = null; a.length`++;");
        House.object(0, "int[] a = null; a[0] = 1; a[0]++; (a)[0] += 1; (a[0]) = 1;");
        House.object(40, "`q = 1;");
        House.object(40, "`q++;");
        House.object(40, "this.`q = 1;");
        House.object(40, "`A = null;");
    }

    /** 48: "a final variable that may not be assigned there (a formal, a name of catch or of for each, a local or field with an initial value; ..". */
    private static void finals() {
        House.due(48, "class A { void f(final int x) { x `= 1; } }");
        House.due(48, "class A { void f(final int x) { x`++; } }");
        House.due(48, "class A { void f(final int... x) { x `= null; } }");
        House.fine("class A { void f(final int[] x, int y) { x[0] = 1; y = 2; } }");
        House.body(48, "try { } catch (final Error e) { e `= null; }");
        House.body(0, "try { } catch (Error e) { e = null; }");
        House.body(48, "for (final int i : new int[1]) i `= 1;");
        House.body(0, "for (int i : new int[1]) i = 1;");
        House.body(48, "final int x = 1; x `= 2;");
        House.body(48, "final int x = 1; `--x;");
        House.body(48, "for (final int i = 0; i < 1; i`++) ;");
        House.body(0, "final int x; x = 1; final int[] y = { 1 }; y[0] = 2;");
        House.due(48, "class A { final int x = 1; A() { x `= 2; } }");
        House.due(48, "class A { static final int x = 1; static void f() { x `= 2; } }");
        House.due(48, "class A { final int x = 1; int y = x `= 2; }");
    }

    /** 48: "a field otherwise than by its simple name or this (in brackets, too) and it, or outside of its own class's constructors ..". */
    private static void finalFields() {
        House.fine("class A { final int x; A() { x = 1; } }");
        House.fine("class A { final int x; A() { this.x = 1; } }");
        House.fine("class A { final int x; A() { (this).x = 1; } }");
        House.fine("class A { final int x; A() { (x) = 1; } }");
        House.fine("class A { final int x; A() { (this.x) = 1; } }");
        House.due(48, "class A { final int x; A(A a) { a.x `= 1; } }");
        House.due(48, "class A { final int x; A() { new A().x `= 1; } }");
        House.due(48, "class A { final int x; A() { ((A) this).x `= 1; } }");
        House.due(48, "class A { final int x; A() { x = 1; } void f() { x `= 2; } }");
        House.due(48, "class A { final int x; A() { x = 1; } void f() { this.x`++; } }");
        House.due(48, "class P { final int x; P() { x = 1; } } class A extends P { A() { x `= 2; } }");
        House.due(48, "class P { final int x; P() { x = 1; } } class A extends P { A() { this.x `= 2; } }");
        House.due(48, "class P { final int x; P() { x = 1; } } class A extends P { A() { super.x `= 2; } }");
        House.due(48, "class P { final int x; P() { x = 1; } } class A { A(P p) { p.x `= 2; } }");
        House.fine("class A { final int x; int y = x = 1; }");
        House.fine("class A { final int x; int y = this.x = 1; }");
        House.fine("class A { static final int x; static int y = x = 1; }");
        House.due(48, "class A { static final int x; int y = x `= 1; }");
        House.due(48, "class A { static final int x; A() { x `= 1; } }");
        House.due(48, "class A { static final int x; static void f() { x `= 1; } }");
        House.due(48, "class A { static final int x; static int y = A.x `= 1; }");
        House.due(45, "class A { final int x; static int y = `x = 1; }");
    }

    /** 50: "a switch's expression that isn't byte, short, char, int or a box of these (at its PLACE)". */
    private static void switches() {
        String[] fine = {"byte", "short", "char", "int", "Byte", "Short", "Character", "Integer"};
        for (String t : fine) {
            House.body(0, t + " x = 1; switch (x) { }");
        }
        String[] wrong = {"boolean", "long", "Boolean", "Long", "Object", "int[]", "A", "Error"};
        for (String t : wrong) {
            House.due(50, "class A { void f(" + t + " x) { switch (`x) { } } }");
        }
        House.body(50, "switch (`null) { }");
        House.body(53, "switch (`g()) { }");
        House.due(0, "class A<T extends Integer> { void f(T x) { switch (x) { case 1: } } }");
        House.due(50, "class A<T> { void f(T x) { switch (`x) { } } }");
        House.body(50, "switch (n) { case `n: }");
        House.body(50, "switch (n) { case `f(1): }");
        House.body(50, "switch (n) { case `null: }");
        House.body(50, "switch (n) { case `1L: }");
        House.body(50, "switch (n) { case `true: }");
        House.body(50, "switch (n) { case 1 `/ 0: }");
        House.body(50, "switch (n) { case 1: case `1: }");
        House.body(50, "switch (n) { case 1: n++; case 2: case 1 `+ 0: }");
        House.body(50, "switch (n) { case 'a': case `97: }");
        House.body(50, "switch (n) { default: `default: }");
        House.body(50, "switch (n) { default: n++; case 1: `default: }");
        House.body(0, "final int k = 3; switch (n) { case 1: case 2: case k: default: case k + 1: case 'a': case (byte) 200: }");
        House.body(50, "int k = 3; switch (n) { case `k: }");
        House.due(0, "class A { static final int K = 1; final int L = 2; void f(int n) { switch (n) { case K: case L: case A.K + 2: } } }");
        House.due(50, "class A { final int L = 2; void f(int n) { switch (n) { case this.`L: } } }");
        House.body(0, "byte b = 1; switch (b) { case 127: case -128: case 'a': }");
        House.body(50, "byte b = 1; switch (b) { case `128: }");
        House.body(50, "byte b = 1; switch (b) { case `-129: }");
        House.body(0, "char b = 1; switch (b) { case 65535: case 0: }");
        House.body(50, "char b = 1; switch (b) { case `65536: }");
        House.body(50, "char b = 1; switch (b) { case `-1: }");
        House.body(50, "short b = 1; switch (b) { case `32768: }");
        House.body(0, "Byte b = 1; switch (b) { case 127: } Character c = 'a'; switch (c) { case 98: case 'a': } Integer i = 1; switch (i) { case 1: }");
        House.body(50, "Byte b = 1; switch (b) { case `128: }");
        House.body(50, "Integer b = 1; switch (b) { case `'a': }");
        House.body(0, "switch (n) { case 1: switch (n) { case 1: default: } default: }");
    }

    /** 51: "break, continue outside of what they can leave; a label that isn't there; continue of what is no loop; return ..". */
    private static void jumps() {
        House.body(51, "`break;");
        House.body(51, "`continue;");
        House.body(51, "if (n > 1) { `break; }");
        House.body(51, "a: `break;");
        House.body(51, "a: { `break; }");
        House.body(51, "a: { `continue a; }");
        House.body(51, "switch (n) { case 1: `continue; }");
        House.body(51, "a: switch (n) { case 1: `continue a; }");
        House.body(51, "while (n > 1) `break a;");
        House.body(51, "while (n > 1) `continue a;");
        House.body(51, "a: ; while (n > 1) `break a;");
        House.body(51, "a: if (n > 1) while (n > 1) `continue a;");
        House.body(0, "a: break a; a: { break a; } a: if (n > 1) while (n > 1) break a;");
        House.body(0, "switch (n) { case 1: break; } a: switch (n) { case 1: break a; } while (n > 1) switch (n) { case 1: continue; }");
        House.body(0, "a: while (n > 1) { b: for (;;) { if (n > 2) continue a; if (n > 3) break b; continue b; } } do { break; } while (n > 1); for (int i : new int[1]) continue;");
        House.body(51, "`return 1;");
        House.due(51, "class A { int f() { `return; } }");
        House.due(51, "class A { A() { `return 1; } }");
        House.due(51, "class A { void f() { } void g() { `return f(); } }");
        House.fine("class A { A() { return; } void f() { return; } int g() { return 1; } }");
    }

    /** 52: "a cast [5.5], an instanceof [15.20.2] that can't be (type not reifiable too), == of things that can't be alike (at its PLACE)". */
    private static void casts() {
        String head = "interface I { } interface J { } class P implements I { } final class F { } class A<T, U extends Error> extends P { boolean z; byte b; int i; long l; Integer w; Object o; I p; P q; F r; T t; U u; int[] s; Object[] v; Long x; A<T, U> y; void f() { ";
        String[] fine = {"(byte) l", "(char) b", "(long) 'a'", "(boolean) z", "(int) w", "(long) w", "(Integer) i", "(Object) i", "(int) o", "(boolean) o", "(P) o", "(P) p", "(J) q", "(I) q", "(J) p", "(F) o",
            "(int[]) o", "(Object) s", "(P[]) v", "(T) o", "(U) o", "(Error) u", "(Object) t", "(P) t", "(A<T, U>) q", "(T) null", "(I) null", "(Integer[]) v", "(int) t", "(I[]) v", "(NoClassDefFoundError) u"};
        for (String e : fine) {
            House.due(0, head + "o = " + e + "; } }");
        }
        String[] wrong = {"(boolean) i", "(int) z", "(byte) w", "(Byte) i", "(Long) i", "(Integer) l", "(Integer) b", "(long) z", "(int) q", "(int) x", "(Long) w", "(P) w", "(F) p", "(J) r", "(P) r",
            "(P) s", "(long[]) s", "(Object[]) s", "(P) v", "(int) null", "(Exception) u", "(Integer) x", "(int[]) v", "(P[]) s"};
        for (String e : wrong) {
            House.due(52, head + "o = `" + e + "; } }");
        }
        String[] is = {"o instanceof P", "o instanceof int[]", "p instanceof P", "null instanceof P", "o instanceof Object", "u instanceof Error", "v instanceof P[]", "t instanceof P", "q instanceof J", "y instanceof P"};
        for (String e : is) {
            House.due(0, head + "z = " + e + "; } }");
        }
        String[] isnt = {"w `instanceof P", "r `instanceof I", "s `instanceof P[]", "y `instanceof A<T, U>", "o `instanceof T", "o `instanceof T[]", "i `instanceof Integer", "o `instanceof int", "u `instanceof Exception", "q `instanceof F"};
        for (String e : isnt) {
            House.due(52, head + "z = " + e + "; } }");
        }
        House.due(52, "class G<T> { boolean f(Object o, G<T> g) { return g instanceof Object && o `instanceof G<T>; } }");
        House.due(0, head + "z = o == w; z = p == q; z = q == null; z = o == s; z = t == o; z = null == null; z = w == i; z = p == o; z = t == u; z = u == o; z = q == (J) null; } }");
        String[] other = {"w `== x", "q `!= r", "p `== r", "s `== v", "u `== new Exception()", "w `!= q", "s `== q"};
        for (String e : other) {
            House.due(52, head + "z = " + e + "; } }");
        }
    }

    /** "53: a call of a void method where a value must be (at its PLACE)". */
    private static void voids() {
        String[] uses = {"int x = `g();", "n = `g();", "n += `g();", "f(`g());", "n = `g() + 1;", "n = 1 + `g();", "n = -`g();", "Object o = (Object) `g();", "boolean b = `g() == null;", "n = n > 1 ? `g() : 1;",
            "n = n > 1 ? 1 : `g();", "throw `g();", "int[] a = { `g() };", "Object o = new int[`g()];", "n = new A().x(`g());", "`g().f();", "n = `g().n;", "n = `g()[0];", "new A(`g());", "boolean b = `g() instanceof A;", "Out.put(`g());"};
        for (String u : uses) {
            House.body(53, u);
        }
        House.due(53, "class A { static void g() { } int x = `g(); }");
        House.due(53, "class A { static void g() { } int f() { return `g(); } }");
        House.due(53, "class A { static void g() { } A() { this(`g()); } A(int x) { } }");
        House.body(0, "g(); for (g(); n > 1; g(), f(1)) g();");
    }

    /** "54: a conditional with two operands of which (a primitive one boxed) neither's type is a subtype of the other's". */
    private static void conditionals() {
        String head = "class A<T, U extends T> { boolean z; int i; Integer w; Object o; A<T, U> a; Error e; Exception x; T t; U u; int[] r; void f() { o = z ";
        String[] fine = {"? i : w", "? i : o", "? a : o", "? o : e", "? null : a", "? i : null", "? null : null", "? t : o", "? u : t", "? r : o", "? z : o", "? z : null", "? 1 : 'a'", "? r : null", "? w : w", "? 1L : w"};
        for (String e : fine) {
            House.due(0, head + e + "; } }");
        }
        String[] wrong = {"? i : a", "? a : e", "? e : x", "? z : i", "? t : a", "? r : a", "? w : z", "? i : e", "? 'a' : z", "? r : new long[1]", "? r : i"};
        for (String e : wrong) {
            House.due(54, head + "`" + e + "; } }");
        }
        House.due(41, "class A { void f(boolean z, Object o) { A a = z `? o : null; } }");
        House.due(43, "class A { void g(byte b) { } void f(boolean z) { `g(z ? 1 : 2); } }");
    }

    /** "A conditional .. stands for itself: it isn't looked into"; "that one below which neither is (null aside)". */
    private static void standsForItself() {
        House.body(41, "Byte b = n > 1 `? 1 : null;");
        House.body(0, "Integer b = n > 1 ? 1 : null; Object o = n > 1 ? 1 : null; int i = n > 1 ? 1 : null;");
        House.body(0, "byte c = true ? 1 : 2;");
        House.body(41, "byte b = n > 1 `? 1 : 2;");
        House.body(41, "Error e = n > 1 `? new Error() : new Throwable();");
        House.body(0, "Throwable e = n > 1 ? new Error() : new Throwable();");
        House.due(41, "class A<T> { A<Error> f(boolean z) { return z `? (Object) null : new A<Error>(); } }");
    }

    /** "A var whose bound is a box (or a var so bound) counts as that box where a number or a boolean is wanted ..". */
    private static void boundByBoxes() {
        String head = "class A<T extends Integer, U extends T, Z extends Boolean, O> { T t; U u; Z z; O o; int n; long l; int[] r; void f() { ";
        String[] fine = {"n = t + u;", "l = t;", "n = -u;", "n = r[t] + r[u];", "Object x = new int[u];", "if (z) n = 1; while (!z) n = 2;", "n = z ? 1 : 2;", "boolean b = t < u && z;", "t++; --u;", "t += 1; u -= t;", "t <<= l;", "z &= true; z = z;",
            "switch (u) { case 1: }", "n = (int) t; l = (long) u;", "Integer i = t; i = u;", "t = u;", "boolean b = t == 1;", "n = z ? t : u;"};
        for (String e : fine) {
            House.due(0, head + e + " } }");
        }
        House.due(41, head + "t = `1; } }");
        House.due(41, head + "u = `t; } }");
        House.due(41, head + "t = t `+ 1; } }");
        House.due(42, head + "t `+= l; } }");
        House.due(42, head + "o`++; } }");
        House.due(42, head + "n = `-o; } }");
        House.due(41, head + "if (`o) ; } }");
        House.due(41, head + "n = r[`z]; } }");
        House.due(42, head + "z`++; } }");
        House.due(41, head + "n = `o; } }");
        House.due(52, head + "byte b = `(byte) t; } }");
    }

    /** "What has no type because a rule is broken in it breaks no other rule by that .. Its type has always: ..". */
    private static void untyped() {
        House.body(40, "boolean b = `q;");
        House.body(40, "n = -`q;");
        House.body(40, "n = `q + true;");
        House.body(40, "n = `q + 1 - true;");
        House.body(42, "n = 1 + (1 `- true);");
        House.body(41, "n = `(boolean) q;");
        House.body(42, "n = 1 `+ (boolean) q;");
        House.body(40, "boolean b = `q == 1;");
        House.body(41, "int i = 1 `> 2;");
        House.body(40, "int i = (`q > 2) + 1;");
        House.body(40, "boolean b = !`q;");
        House.body(40, "f(`q);");
        House.body(40, "f(`q, 1, 2);");
        House.body(40, "`q.x.y.z();");
        House.body(43, "boolean b = `h();");
        House.body(42, "boolean b = n`[0];");
        House.body(54, "boolean b = n > 1 `? 1 : new A();");
        House.due(41, "class A { int x = `new A(1); }");
        House.due(43, "class A { A x = `new A(1); int y = 1 + true; }");
        House.due(49, "abstract class B { } class A { int y = new `B(); }");
        House.due(42, "class A { boolean x = `-true; }");
    }

    public static void main(String[] args) {
        noVariable();
        finals();
        finalFields();
        switches();
        jumps();
        casts();
        voids();
        conditionals();
        standsForItself();
        boundByBoxes();
        untyped();
        House.end("targets, switches, jumps, casts");
    }
}
