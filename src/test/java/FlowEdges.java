/** Part IV of the document: what can be reached, what is assigned, what may be thrown. */
public final class FlowEdges {

    /** 60: "a statement that can't be reached [14.22 ..] (at its first token)". */
    private static void reached() {
        String[] ends = {"return;", "throw new Error();", "while (true) ;", "for (;;) ;", "for (; true; ) ;", "do ; while (true);", "while (1 < 2) { }",
            "{ return; }", "if (n > 1) return; else return;", "a: { return; }", "try { return; } finally { }", "try { } finally { return; }",
            "switch (n) { default: return; }", "switch (n) { case 1: default: throw null; }", "try { return; } catch (Error e) { return; }",
            "a: while (true) { while (true) { break; } }", "for (;;) { continue; }", "do { continue; } while (true);"};
        for (String e : ends) {
            House.body(60, e + " `n++;");
            House.body(60, e + " `;");
            House.body(60, e + " `{ }");
            House.body(60, e + " `int x;");
            House.due(0, "class A { static int n; static int f() { " + e.replace("return;", "return 1;") + " } }");
        }
        String[] goOn = {"if (true) return;", "if (false) n++;", "while (n > 1) ;", "for (; n > 1; ) ;", "do { break; } while (true);", "while (true) { break; }", "a: { break a; }", "a: while (true) break a;",
            "switch (n) { }", "switch (n) { case 1: return; }", "switch (n) { default: break; }", "switch (n) { default: return; case 1: }", "try { return; } catch (Error e) { }", "for (int i : new int[1]) return;",
            "do { continue; } while (n > 1);", "a: do { while (true) continue a; } while (n > 1);", "for (;;) break;", "boolean b = true; while (b) ;"};
        for (String e : goOn) {
            House.body(0, e + " n++;");
            House.due(60, "class A { static int n; static int f() { " + e.replace("return;", "return 1;") + " `} }");
        }
        House.body(60, "do { return; } while (n > 1); `n++;");
        House.body(60, "while (false) `n++;");
        House.body(60, "while (false) `{ }");
        House.body(60, "for (; false; ) `;");
        House.body(60, "final boolean k = false; while (k) `n++;");
        House.body(60, "while (true) { break; `n++; }");
        House.body(60, "while (true) { continue; `n++; }");
        House.body(60, "switch (n) { case 1: break; `n++; }");
        House.body(60, "switch (n) { case 1: return; `n++; case 2: n++; }");
        House.body(0, "switch (n) { case 1: return; case 2: n++; }");
        House.body(0, "do n++; while (false); if (false) { while (n > 1) ; }");
    }

    /** 60: "a break or continue out of a try's block, and out of its catches, goes on just if its finally's end can be reached". */
    private static void throughFinally() {
        House.body(0, "while (true) { try { break; } finally { n++; } } n++;");
        House.body(60, "while (true) { try { break; } finally { return; } } `n++;");
        House.body(60, "while (true) { try { } catch (Error e) { break; } finally { return; } } `n++;");
        House.body(0, "while (true) { try { } catch (Error e) { break; } finally { n++; } } n++;");
        House.body(0, "while (true) { try { } finally { break; } } n++;");
        House.body(60, "a: { try { try { break a; } finally { n++; } } finally { throw null; } } `n++;");
        House.body(60, "a: { try { try { break a; } finally { throw null; } } finally { n++; } } `n++;");
        House.body(60, "do { try { continue; } finally { return; } } while (n > 1); `n++;");
        House.body(0, "do { try { continue; } finally { } } while (n > 1); n++;");
        House.body(0, "try { a: { break a; } n++; } finally { return; }");
    }

    /** 61: "a local .. that is read without being definitely assigned [16] (at its PLACE; a constant, too, but in case labels)". */
    private static void read() {
        House.body(61, "int x; n = `x;");
        House.body(61, "int x; `x++;");
        House.body(61, "int x; `x += 1;");
        House.body(61, "int x = `x + 1;");
        House.body(0, "int x = x = 1; int y; y = 1; n = y; int z; n = z = 2;");
        House.body(61, "int[] x; `x[0] = 1;");
        House.body(61, "int x; if (n > 1) x = 1; n = `x;");
        House.body(0, "int x; if (n > 1) x = 1; else x = 2; n = x;");
        House.body(0, "int x; if (n > 1) x = 1; else return; n = x;");
        House.body(61, "int x; while (n > 1) x = 1; n = `x;");
        House.body(0, "int x; while (true) { x = 1; break; } n = x;");
        House.body(61, "int x; while (true) { if (n > 1) break; x = 1; } n = `x;");
        House.body(0, "int x; do { x = 1; } while (n > 1); n = x;");
        House.body(61, "int x; do { if (n > 1) continue; x = 1; } while (`x > 1);");
        House.body(61, "int x; for (; n > 1; ) x = 1; n = `x;");
        House.body(0, "int x; for (x = 1; x < 2; x++) ; n = x;");
        House.body(0, "int x; for (;;) { x = 1; break; } n = x;");
        House.body(61, "int x; for (int i : new int[1]) x = 1; n = `x;");
        House.body(61, "int x; switch (n) { case 1: x = 1; } n = `x;");
        House.body(0, "int x; switch (n) { case 1: x = 1; break; default: x = 2; } n = x;");
        House.body(61, "int x; switch (n) { case 1: x = 1; default: } n = `x;");
        House.body(61, "switch (n) { case 1: int x = 1; case 2: n = `x; }");
        House.body(0, "switch (n) { case 1: int x = 1; case 2: x = 2; n = x; }");
        House.body(61, "switch (n) { case 1: final int k = 5; break; case 2: n = `k; }");
        House.body(0, "switch (n) { case 1: final int k = 5; break; case 2: switch (n) { case k: case k + 1: } }");
        House.body(61, "int x; try { x = f(1); } catch (Error e) { } n = `x;");
        House.body(0, "int x; try { x = f(1); } catch (Error e) { x = 2; } n = x;");
        House.body(61, "int x; try { x = f(1); } catch (Error e) { n = `x; }");
        House.body(61, "int x; try { x = f(1); } finally { n = `x; }");
        House.body(0, "int x; try { } finally { x = 1; } n = x;");
        House.body(0, "int x; a: { try { break a; } finally { x = 1; } } n = x;");
        House.body(61, "int x; a: { if (n > 1) break a; x = 1; } n = `x;");
        House.body(0, "int x; a: { x = 1; if (n > 1) break a; } n = x;");
    }

    /** [16.1]: what is assigned when a condition is true, and when it is false. */
    private static void conditions() {
        House.body(0, "int x; if (n > 1 && (x = 1) > 0) n = x;");
        House.body(61, "int x; if (n > 1 && (x = 1) > 0) ; else n = `x;");
        House.body(61, "int x; if (n > 1 || (x = 1) > 0) n = `x;");
        House.body(0, "int x; if (n > 1 || (x = 1) > 0) ; else n = x;");
        House.body(0, "int x; if (!(n > 1 || (x = 1) > 0)) n = x;");
        House.body(61, "int x; if (!(n > 1 && (x = 1) > 0)) n = `x;");
        House.body(0, "int x; if (n > 1 & (x = 1) > 0) n = x; else n = x;");
        House.body(0, "int x; if (n > 1 ? (x = 1) > 0 : (x = 2) > 0) n = x;");
        House.body(61, "int x; if (n > 1 ? (x = 1) > 0 : true) n = `x;");
        House.body(0, "int x; if (n > 1 ? (x = 1) > 0 : false) n = x;");
        House.body(0, "int x; while (n > 1 && (x = 1) > 0) n = x;");
        House.body(0, "int x; while (!((x = 1) > 0)) ; n = x;");
        House.body(0, "int x; if (false) n = x;");
        House.body(61, "int x; if (true) n = `x;");
        House.body(0, "int x; if (true || x > 1) n = 1;");
        House.body(0, "int x; boolean b = false && x > 1;");
        House.body(61, "int x; boolean b = true && `x > 1;");
        House.body(0, "int x; n = true ? 1 : x;");
        House.body(61, "int x; n = false ? 1 : `x;");
        House.body(0, "int x; n = n > 1 ? (x = 1) : (x = 2); n = x;");
        House.body(61, "int x; boolean b = n > 1 && (x = 1) > 0; n = `x;");
        String k = "switch (n) { case 1: final boolean k = true; break; case 2: ";
        House.body(61, k + "if (`k) n++; }");
        House.body(61, k + "while (`k) n++; }");
        House.body(0, k + "if (false && k) n++; }");
        House.body(0, k + "if (true || k) n++; }");
        House.body(0, k + "if (true ? true : k) n++; }");
        House.body(61, k + "if (`k && false) n++; }");
        House.body(61, k + "if (true & `k) n++; }");
        House.body(61, k + "if (!`k) n++; }");
    }

    /** 61: "a final field by its simple name or this ..", "a final field (without an initial value) that isn't at the end of a constructor ..". */
    private static void fields() {
        House.due(61, "class A { final int x; int y = `x; A() { x = 1; } }");
        House.due(61, "class A { final int x; int y = this.`x; A() { x = 1; } }");
        House.due(61, "class A { final int x; A() { int y = `x; x = 1; } }");
        House.due(61, "class A { final int x; A() { int y = this.`x; x = 1; } }");
        House.due(61, "class A { final int x; A() { int y = (this).`x; x = 1; } }");
        House.due(61, "class A { final int x; A() { `x++; } }");
        House.fine("class A { final int x; A(A a) { int y = a.x; x = 1; y = x + this.x; } void f() { int z = x; } }");
        House.fine("class A { final int x; A() { f(); x = 1; } int f() { return x; } }");
        House.due(61, "class A { static final int x; static int y = `x; static int z = x = 1; }");
        House.fine("class A { static final int x; static int y = A.x; static int z = x = 1; }");
        House.due(61, "class A { final int `x; }");
        House.due(61, "class A { final int x; final int `y; int z = x = 1; }");
        House.due(61, "class A { static final int `x; }");
        House.due(61, "class A { static final int `x; A() { } }");
        House.due(61, "class A { final int x; `A() { } }");
        House.due(61, "class A { final int x; A(int y) { x = y; } `A() { } }");
        House.due(61, "class A { final int x; `A(int y) { if (y > 1) x = y; } }");
        House.due(61, "class A { final int x; `A(int y) { if (y > 1) return; x = y; } }");
        House.fine("class A { final int x; A(int y) { x = y; if (y > 1) return; } A() { this(1); } A(long z) { throw new Error(); } A(boolean b) { while (true) ; } }");
        House.fine("class A { final int x, y; int z = x = 1; A() { y = x; } }");
        House.fine("abstract class A { final int x; A() { try { } finally { x = 1; } } }");
        House.due(61, "abstract class A { final int `x; }");
    }

    /** 62: "a final local or field that is assigned without being definitely unassigned (at the assignment's PLACE)". */
    private static void assigned() {
        House.body(0, "final int x; x = 1;");
        House.body(62, "final int x; x = 1; x `= 2;");
        House.body(0, "int x; x = 1; x = 2;");
        House.body(62, "final int x; if (n > 1) x = 1; x `= 2;");
        House.body(0, "final int x; if (n > 1) x = 1; else x = 2;");
        House.body(62, "final int x; while (n > 1) x `= 1;");
        House.body(0, "final int x; while (true) { x = 1; break; }");
        House.body(62, "final int x; do x `= 1; while (n > 1);");
        House.body(62, "final int x; for (;; ) { x `= 1; if (n > 1) break; }");
        House.body(62, "final int x; for (int i : new int[1]) x `= 1;");
        House.body(62, "final int x; while ((x `= 1) > n) ;");
        House.body(0, "while (n > 1) { final int x; x = 1; }");
        House.body(62, "final int x; switch (n) { case 1: x = 1; case 2: x `= 2; }");
        House.body(0, "final int x; switch (n) { case 1: x = 1; break; case 2: x = 2; }");
        House.body(0, "switch (n) { case 1: final int x; x = 1; break; case 2: x = 2; }");
        House.body(62, "switch (n) { case 1: final int x; x = 1; case 2: x `= 2; }");
        House.body(0, "final int x; if (n > 1 && (x = 1) > 0) ; ");
        House.body(62, "final int x; if (n > 1 && (x = 1) > 0) ; else x `= 2;");
        House.body(0, "final int x; if (n > 1 || (x = 1) > 0) ;");
        House.body(62, "final int x; n = (x = 1) + (x `= 2);");
        House.body(0, "final int x; n = n > 1 ? (x = 1) : (x = 2);");
        House.due(62, "class A { final int x; A() { x = 1; this.x `= 2; } }");
        House.due(62, "class A { final int x; int y = x = 1; A() { x `= 2; } }");
        House.due(62, "class A { final int x; int y = x = 1, z = x `= 2; }");
        House.due(62, "class A { static final int x; static int y = x = 1, z = x `= 2; }");
        House.due(62, "class A { final int x; A() { this(1); x `= 2; } A(int y) { x = y; } }");
        House.due(62, "class A { final int x; A(int y) { x = 1; x`++; } }");
    }

    /** 62: "Ahead of a catch, a finally what is assigned anywhere in the block (and in catches ahead of a finally) is not unassigned; a jump out ..". */
    private static void assignedInTry() {
        House.body(62, "final int x; try { x = 1; } catch (Error e) { x `= 2; }");
        House.body(62, "final int x; try { x = 1; return; } catch (Error e) { x `= 2; }");
        House.body(0, "final int x; try { n = 1; } catch (Error e) { x = 2; }");
        House.body(0, "final int x; try { n = 1; } catch (Error e) { x = 2; } catch (Exception e) { x = 2; }");
        House.body(62, "final int x; try { x = 1; } finally { x `= 2; }");
        House.body(62, "final int x; try { } catch (Error e) { x = 1; } finally { x `= 2; }");
        House.body(0, "final int x; try { } finally { x = 2; }");
        House.body(62, "final int x; try { } finally { x = 2; } x `= 3;");
        House.body(62, "final int x; try { x = 1; } catch (Error e) { } x `= 2;");
        House.body(62, "final int x; a: { try { break a; } finally { x = 1; } } x `= 2;");
        House.body(62, "final int x; a: { try { x = 1; break a; } finally { n++; } } x `= 2;");
        House.body(0, "final int x; a: { try { break a; } finally { n++; } } x = 2;");
        House.body(62, "final int x; try { while (true) { x = 1; break; } } catch (Error e) { x `= 2; }");
    }

    /** 63: "a checked exception [11.1.1] that can be thrown and is neither caught nor told [11.2] ..". */
    private static void thrown() {
        String head = "class E extends Exception { } class F extends E { } class P { P() throws E { } void m() throws E { } static void s() throws E { } } ";
        House.due(63, head + "class A { void f() { `throw new E(); } }");
        House.due(63, head + "class A { void f(Throwable t) { `throw t; } }");
        House.fine(head + "class A { void f() { throw new Error(); } void g() { throw new NullPointerException(); } void h() { throw null; } void i() throws E { throw new F(); } }");
        House.due(63, head + "class A { void f() throws F { `throw new E(); } }");
        House.due(63, head + "class A { void f(P p) { p.`m(); } }");
        House.due(63, head + "class A { void f() { P.`s(); } }");
        House.due(63, head + "class A { Object f() { return `new P(); } }");
        House.due(63, head + "class `A extends P { }");
        House.due(63, head + "class A extends P { `A() { } }");
        House.due(63, head + "class A extends P { A() { `super(); } }");
        House.due(63, head + "class A extends P { A() throws E { } A(int x) { `this(); } }");
        House.fine(head + "class A extends P { A() throws E { } A(int x) throws Exception { this(); } A(long x) throws Throwable { super(); } }");
        House.fine(head + "class A { void f(P p) { try { p.m(); P.s(); new P(); throw new F(); } catch (E e) { } } }");
        House.due(63, head + "class A { void f(P p) { try { p.`m(); } catch (F e) { } } }");
        House.due(63, head + "class A { void f(P p) { try { } finally { p.`m(); } } }");
        House.due(63, head + "class A { void f(P p) { try { p.m(); } catch (E e) { p.`m(); } } }");
        House.fine(head + "class A { void f(P p) { try { p.m(); } finally { return; } } }");
        House.due(63, head + "class A { Object x = `new P(); }");
        House.due(63, head + "class A { Object x = `new P(); A() { } }");
        House.due(63, head + "class A { Object x = `new P(); A() throws E { } A(int y) { } }");
        House.due(63, head + "class A { Object x = `new P(); A() throws F { } }");
        House.fine(head + "class A { Object x = new P(); A() throws E { } A(int y) throws Exception { } }");
        House.due(63, head + "class A { static Object x = `new P(); A() throws E { } }");
        House.due(63, "class A<T extends Exception> { void f() throws T { } void g() { `f(); } }");
        House.fine("class A<T extends Exception> { void f() throws T { } void g() throws T { f(); } void h(A<RuntimeException> a) { a.f(); } }");
        House.due(63, "class A<T extends Exception> { void f() throws T { } void h(A<Exception> a) { a.`f(); } }");
        House.due(63, "class A { <T extends Exception> void f() throws T { } void g() { this.<Exception>`f(); } }");
        House.fine("class A { <T extends Throwable> void f() throws T { } void g() { this.<Error>f(); } }");
    }

    /** 63: "throw of a catch's own variable that is never assigned [11.2.2] ..". */
    private static void again() {
        String head = "class E extends Exception { } class F extends E { } class G extends Exception { } class A { static void e() throws E { } static void g() throws G { } static void x() throws Exception { } ";
        House.fine(head + "void m() { try { } catch (Exception t) { throw t; } } }");
        House.body(0, "try { n++; } catch (Throwable t) { throw t; }");
        House.due(63, head + "void m() { try { e(); } catch (Exception t) { `throw t; } } }");
        House.fine(head + "void m() throws E { try { e(); } catch (Exception t) { throw t; } } }");
        House.fine(head + "void m() throws E { try { e(); } catch (Exception t) { throw (t); } } }");
        House.due(63, head + "void m() throws E { try { e(); } catch (Exception t) { t = null; `throw t; } } }");
        House.due(63, head + "void m() throws E { try { e(); } catch (Exception t) { Exception u = t; `throw u; } } }");
        House.due(63, head + "void m() throws E { try { e(); g(); } catch (Exception t) { `throw t; } } }");
        House.fine(head + "void m() throws E, G { try { e(); g(); } catch (Exception t) { throw t; } } }");
        House.fine(head + "void m() throws G { try { e(); g(); } catch (E t) { } catch (Exception t) { throw t; } } }");
        House.due(63, head + "void m() throws G { try { e(); g(); } catch (F t) { } catch (Exception t) { `throw t; } } }");
        House.due(63, head + "void m() { try { e(); } catch (F t) { `throw t; } catch (E t) { } } }");
        House.fine(head + "void m() throws F { try { e(); } catch (F t) { throw t; } catch (E t) { } } }");
        House.fine(head + "void m() throws F { try { x(); } catch (F t) { throw t; } catch (Exception t) { } } }");
        House.due(63, head + "void m() throws F { try { x(); } catch (E t) { `throw t; } catch (Exception t) { } } }");
        House.fine(head + "void m() throws E { try { try { e(); } catch (Exception t) { throw t; } } catch (Throwable u) { throw u; } } }");
    }

    /** 64: "a catch of a checked exception (not Exception, Throwable) that its block can't throw; one behind a catch that takes all of it". */
    private static void catches() {
        String head = "class E extends Exception { } class F extends E { } class G extends Exception { } class A { static void e() throws E { } static void f() throws F { } static void x() throws Exception { } ";
        House.due(64, head + "void m() { try { } catch (`E t) { } } }");
        House.due(64, head + "void m() { try { f(); } catch (F t) { } catch (`G t) { } } }");
        House.fine(head + "void m() { try { f(); } catch (E t) { } } }");
        House.fine(head + "void m() throws E { try { e(); } catch (F t) { } } }");
        House.fine(head + "void m() throws Exception { try { x(); } catch (G t) { } } }");
        House.fine(head + "void m() { try { } catch (Exception t) { } try { } catch (Throwable t) { } try { } catch (Error t) { } try { } catch (RuntimeException t) { } try { } catch (NullPointerException t) { } } }");
        House.due(64, head + "void m() { try { e(); } catch (E t) { } catch (`E u) { } } }");
        House.due(64, head + "void m() { try { e(); } catch (E t) { } catch (`F u) { } } }");
        House.due(64, head + "void m() { try { e(); } catch (Exception t) { } catch (`E u) { } } }");
        House.due(64, head + "void m() { try { } catch (Throwable t) { } catch (`Error u) { } } }");
        House.fine(head + "void m() { try { e(); } catch (F t) { } catch (E u) { } catch (Exception v) { } catch (Throwable w) { } } }");
        House.fine(head + "void m() { try { f(); } catch (F t) { } catch (E u) { } } }");
        House.due(64, head + "void m() { try { try { e(); } catch (E t) { } } catch (`E u) { } } }");
        House.due(64, head + "void m() { try { try { e(); } finally { return; } } catch (`E u) { } } }");
        House.fine(head + "void m() { try { try { e(); } finally { } } catch (E u) { } } }");
        House.fine(head + "void m() { try { try { e(); } catch (E t) { throw t; } } catch (E u) { } } }");
    }

    /** "If there is no other: likewise the least place"; at one place the least number. */
    private static void order() {
        House.body(60, "int x; return; `n = x;");
        House.body(61, "int x; n = `x; return; n = 1;");
        House.due(61, "class P { P() throws Exception { } } class A extends P { final int x; `A() { } }");
        House.due(63, "class P { P() throws Exception { } } class `A extends P { final int x; }");
    }

    public static void main(String[] args) {
        reached();
        throughFinally();
        read();
        conditions();
        fields();
        assigned();
        assignedInTry();
        thrown();
        again();
        catches();
        order();
        House.end("flow");
    }
}
