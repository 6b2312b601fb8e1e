/** The document's grammar, production by production: what it has, and the first token with which no text goes on. */
public final class GrammarEdges {

    private static void ok(String... texts) {
        for (String s : texts) {
            House.fine(s);
        }
    }

    private static void no(String... texts) {
        for (String s : texts) {
            House.due(1, s);
        }
    }

    private static void body(String... texts) {
        for (String s : texts) {
            House.body(0, s);
        }
    }

    private static void noBody(String... texts) {
        for (String s : texts) {
            House.body(1, s);
        }
    }

    /** text, kind, vars, var, refs, modifier. */
    private static void kinds() {
        ok("", ";", ";;", ";class A { };interface I { };", "public final class A { }", "abstract interface I { }");
        no("`x", "`{ }", "`}", "class `", "class `{ }", "class A `", "class A `;", "class A {`", "class A { `)", "class A { } `}", "public `", "public `;", "public `void", "`int x;", "`final_ class A { }", "class A `B { }", "`class_ A { }", "class `1A { }", "class A`. { }");
        ok("class A<T> { }", "class A<T, U extends T> { }", "interface A<T extends Object> { }");
        no("class A<`> { }", "class A<T,`> { }", "class A<T `{ }", "class A<T extends `> { }", "class A<T extends A `B> { }", "class A<T extends `int> { }", "class A<T extends A`[]> { }", "class A<`int> { }", "class A `<< T> { }", "class A<T>`<U> { }", "class A<T>`> { }");
        ok("class A { } class B extends A { } interface I { } interface J extends I { } class C extends A implements I, J { } class D implements J { }");
        no("class A extends `{ }", "class A extends B`, C { }", "class A extends B `extends C { }", "class A implements `{ }", "class A implements B`; { }", "class A implements B, `{ }", "class A implements B `extends C { }", "interface A `implements B { }", "interface A extends `{ }", "interface A extends B, `{ }",
            "class A extends B`[] { }", "class A implements B`[] { }", "class A extends `int { }", "class A extends B`.C { }");
    }

    /** member, field, declarator, method, constructor, formal. */
    private static void members() {
        ok("class A { ; ;; int x; int y, z[], w = 1; public static final int v = 1; }");
        no("class A { int `}", "class A { int `; }", "class A { int x `}", "class A { int x `y; }", "class A { int x, `; }", "class A { int x = `; }", "class A { int x[`1]; }", "class A { int x[`; }", "class A { int[`x; }", "class A { x`; }", "class A { `1; }", "class A { x `= 1; }", "class A { public `}", "class A { void `}", "class A { void x`; }", "class A { void x `= 1; }", "class A { `extends x; }",
            "class A { int `int; }", "class A { `this x; }", "class A { void`[] f() { } }", "class A { int x; `= 1; }");
        ok("class A { void f() { } int[] g(final int a, int[] b, int c[], A... d) { return b; } A() { } A(int x) throws Error, Exception { } }");
        no("class A { void f `{ } }", "class A { void f(`{ } }", "class A { void f() `} }", "class A { void f() { } `, }", "class A { void f(int`) { } }", "class A { void f(x y `z) { } }", "class A { void f(int x, `) { } }", "class A { void f(`, int x) { } }", "class A { void f(int x `= 1) { } }", "class A { void f(int... `) { } }", "class A { void f(int...x`[]) { } }",
            "class A { void f(int... x`, int y) { } }", "class A { void f(int x`...) { } }", "class A { void f(final `final int x) { } }", "class A { void f(`static int x) { } }", "class A { void f(int[]... `... x) { } }", "class A { void f(`void x) { } }");
        no("class A { void f() throws `{ } }", "class A { void f() throws A`[] { } }", "class A { void f() throws A, `{ } }", "class A { void f() throws `int { } }", "class A { int f()`[] { } }", "class A { int f() `= 1; }", "class A { int f()`, g(); }");
        no("class A { A() `; }", "class A { A `{ } }", "class A { A(`{ } }", "class A { A() throws `; }", "class A { <T> A`() { } }", "class A { A[]`() { } }", "interface A { A`() { } }", "interface I { A`(); }");
        ok("class A { <T> void f() { } <T, U> T g(U u) { return null; } public static <T> int[] h() { return null; } }", "interface I { ; void f(); public abstract int g(int x) throws Error; <T> T h(); }");
        no("class A { <T> int x`; }", "class A { <T> `; }", "class A { <T> `<U> void f() { } }", "class A { int `<T> f() { } }", "class A { <T> `public void f() { } }");
    }

    /** type, ref: "a type there that is primitive without [ ]: SYNTAX at the , or > behind it; ..". */
    private static void types() {
        ok("class A<T> { A<T> a; A<A<T>>[] b; A<int[]> c; A<T[]> d; A<A<int[]>[]>[] e; boolean f; byte g; short h; char i; int j; long k; }");
        no("class A<T> { A<int`> a; }", "class A<T, U> { A<int`, T> a; }", "class A<T, U> { A<T, long`> a; }", "class A<T> { A<A<char`>> a; }", "class A<T> { A<A<boolean`>, T> a; }", "class A<T> { A<T, `> a; }", "class A<T> { A<`, T> a; }", "class A<T> { A<T `a; }", "class A<T> { A<`void> a; }", "class A<T> { A<T>`<T> a; }", "class A<T> { A[]`<T> a; }", "class A<T> { int`<T> a; }", "class A { A`.B b; }", "class A { A<A`.B> b; }", "class A<T> { A<`final A> b; }", "class A { void x`; }", "class A { A[`1] x; }");
        noBody("A<int`> x;", "A<int`, A> x;", "Object o = (A<int`>) null;", "Object o = new A<int`>();", "A.<int`>f(1);", "try { } catch (A`[] e) { }", "try { } catch (`int e) { }", "Object o = new A`;", "Object o = new int`;", "Object o = new `void[1];", "boolean b = null instanceof `1;", "boolean b = null instanceof A `x;", "boolean b = null instanceof `final A x;");
    }

    /** block, statement: what may stand where, and what is wrong at the token behind. */
    private static void statements() {
        body("", ";", "{ }", "{ ; { } }", "int x;", "final int x = 1, y[] = { 1 }, z;", "a: ;", "a: b: { }", "n++; --n; n = 1; n += 1; f(1); new A(); A.f(2); this_: ;");
        noBody("int `;", "final `;", "final n `= 1;", "int x, `;", "int x = `;", "int x `1;", "if `n ;", "if (`) ;", "if (true `;", "if (true) `else ;", "if (true) ; else `}", "`else ;", "while `;", "while (true) `}", "do while (true); `n++;", "do ; `n++;", "do ; while (true) `}", "f(true) `n++;");
        noBody("if (true) `int x;", "if (true) A `x;", "if (true) `final int x;", "while (true) `int x;", "do `int x; while (true);", "for (;;) `int x;", "a: `int x;", "if (true) ; else `int x;", "if (true) A[`] x;");
        body("if (n > 1) ; else if (n > 2) ; else ;", "while (n > 1) ;", "do ; while (n > 1);", "switch (n) { case 1: int x; default: A y; case 2: { } }");
        noBody("n`;", "n + 1`;", "-n`;", "(n)`;", "(n = 1)`;", "(f(1))`;", "(n++)`;", "1`;", "'a'`;", "true`;", "null`;", "new int[1]`;", "new int[] { }`;", "n > 1 ? n : n`;", "n instanceof A`;", "(int) n`;", "!true`;", "A.n`;", "new A().x`;", "n[0]`;", "n == 1`;", "`);", "n = `;", "`= 1;", "1 `n;");
        body("break_: { break break_; }", "return;", "for (;;) { if (n > 1) break; continue; }", "throw null;");
        noBody("break `1;", "break a `b;", "break a`.b;", "continue `(a);", "return 1 `2;", "return `)", "throw `;", "throw null `null;", "`case 1: ;", "`default: ;", "`catch (Error e) { }", "`finally { }");
        noBody("this`;", "super`;", "this.n`;", "this(1)`.n++;", "this(1) `}", "super(1)`++;", "n = this`(1);", "n = super`(1);", "n = super`;", "this(`;", "super(1 `2);", "super. `1;", "super`[0] = 1;");
        noBody("class_ x `y;", "int x `y;", "`public int x;", "`void f() { }", "int f`() { }", "`throws A;", "`extends A;", "`implements A;");
    }

    /** for, try, switch. */
    private static void greater() {
        body("for (;;) ;", "for (int i = 0, j = 1; i < j; i++, j--) ;", "for (n = 1, n++; n > 1; f(1), new A()) ;", "for (final int i = 0; ; ) ;", "for (int i : new int[1]) ;", "for (final int i[] : new int[1][1]) ;", "for (A a; ; ) ;", "for (A a = null, b[] = { }; ; ) ;");
        noBody("for `;", "for (`) ;", "for (;`) ;", "for (; n > 1`) ;", "for (;;`; ) ;", "for (int i`) ;", "for (int i = 0`) ;", "for (int i, `; ; ) ;", "for (int i, j `: null) ;", "for (int i = 0 `: null) ;", "for (int i : `) ;", "for (int i : null `; ; ) ;", "for (n `: null) ;", "for (n`; ; ) ;", "for (n + 1`; ; ) ;", "for (; ; n`) ;", "for (; ; n++, n`) ;", "for (; ; n++, `) ;", "for (n++, `; ; ) ;", "for (n++, `int i; ; ) ;", "for (int i = 0; ; `int j = 0) ;", "for (;;) `}", "for (n = 1 `n++; ; ) ;", "for (; n > 1`, n > 2; ) ;");
        body("try { } finally { }", "try { } catch (Error e) { }", "try { } catch (final Error e) { } catch (Exception f) { } finally { }");
        noBody("try `;", "try { } `;", "try { } `}", "try { } catch `{ }", "try { } catch (`) { }", "try { } catch (Error`) { }", "try { } catch (Error e`, Error f) { }", "try { } catch (Error e) `;", "try { } catch (Error e`[]) { }", "try { } finally `;", "try { } finally { } `finally { }", "try { } finally { } `catch (Error e) { }", "try { } catch (`static Error e) { }");
        body("switch (n) { }", "switch (n) { case 1: }", "switch (n) { case 1: case 2: default: n++; case 3: }", "switch (n) { case 1 > 2 ? 3 : 4: a: ; }");
        noBody("switch `{ }", "switch (`) { }", "switch (n) `;", "switch (n) { `n++; }", "switch (n) { case `: }", "switch (n) { case 1 `n++; }", "switch (n) { case 1`, 2: }", "switch (n) { default `1: }", "switch (n) { case 1: case `: }", "switch (n) { case 1: n++ `}", "switch (n) { case `int: }", "switch (n) { case 1: `: }");
    }

    /** exp, cast, primary, args, typeargs, init. */
    private static void expressions() {
        body("n = n = n += n; n = n > 1 ? n : n > 2 ? n : n; n = n + n * -n - -n - +n; n = ~~n; boolean b = !!(n > 1);", "n = n++ + ++n; n = n-- - --n; n = - - -n;", "n = (n); n = ((n)) + (n); n = (n) + n; n = (n) - n; n = (n) * n;");
        noBody("n = n `n;", "n = n + `;", "n = + `;", "n = `* n;", "n = n + `* n;", "n = n ? `: n;", "n = n ? n `;", "n = n ? n : `;", "n = n ? n ? n : n `;", "n = (`);", "n = (n `;", "n = n`);", "n = n `! n;", "n = n `~ n;", "n = n++ `n;", "n = n ++ ++ `n;", "n = n instanceof `;", "n = n instanceof A `x;", "n = n == `= n;", "n = n = `> n;", "n = n < `= n;");
        body("n = (int) n; n = (int) -n; n = (int) +n; n = (int) ++n; n = (int) (n); n = (int) 'a'; Object o = (Object) n; o = (Object) 1; o = (Object) null; o = (Object) new A(); o = (Object) (n); boolean b = (boolean) !true; n = (Integer) ~n; o = (int[]) o; o = (Object[]) null; o = (Object) (Object) o;");
        noBody("n = (A[]) `-n;", "n = (A[]) `+n;", "n = (A[]) `++n;", "n = (int[]) `-n;", "n = (A<A>) `-n;", "n = (int) `;", "n = (int) `* n;", "n = (A[]) `;", "n = (A[]) `* n;", "n = (A[]`;", "n = (A[]`.x);", "n = (int`;", "n = (int `n) n;", "n = (A `n);", "n = (int[][`0]) n;", "n = (A) `)", "n = (`final A) n;", "n = (`void) n;");
        body("n = A.n; n = A.f(1); n = new A().n; n = new A().f(1); Object o = new A[1]; o = new A[1][2][]; o = new int[][] { { 1 }, { } }; n = new int[] { 1 }.length; n = (new int[] { 1 })[0]; n = new int[1].length;");
        noBody("n = A.`;", "n = A. `1;", "n = A.`(1);", "n = A.`[0];", "n = A.f(`;", "n = A.f(1 `2);", "n = A.f(`, 1);", "n = A.f(1, `);", "n = n[`];", "n = n[1 `2];", "n = n[1`;", "n = new `;", "n = new `(1);", "n = new A`.n;", "n = new A(1`;", "n = new int`(1);", "n = new int[`;", "n = new int[]`;", "n = new int[][`1];", "n = new int[1][][`1];", "n = new int[1] `{ };", "n = new int[1][] `{ };", "n = new int[] { 1 }`[0];", "n = new A[] { }`[0];", "n = new A[1][]. `1;");
        noBody("n = new int[1]`(0);", "n = f(1)`(2);", "n = (f())`(2);", "n = this`(2);", "n = 1`(2);", "n = 'a'. `1;", "n = `[0];", "n = `{ 1 };", "n = f(`{ 1 });", "n = n + `{ };", "int[] a = new `{ };", "int[] a = { 1, `, };", "int[] a = { , `1 };", "int[] a = { 1 `2 };", "int[] a = { 1 `;", "int[] a = { `;", "int[] a; a = `{ };");
        body("int[] a = { }, b = { , }, c = { 1 }, d = { 1, }, e[] = { { }, { 1, }, };", "A.<A>f(1); new A().<A, A[]>f(1); A.<int[]>f(1);");
        noBody("`<A>f(1);", "A.<A>`(1);", "A.<A>f`;", "A.<A>f`.g();", "A.<A `f(1);", "A<A>`.f(1);", "A<A>`.f(1);", "A.<A`;", "n = A.<A>n`;", "f<A>(1)`;", "this.<`1>f();", "n = super.<A>x`;");
        House.due(1, "class A { int x = 1 `int y; }");
        House.due(1, "class A { int[] x = { 1 }`.length; }");
        House.due(1, "class A { int[] x = { 1 }, y = { } `+ 1; }");
    }

    /** "A statement that begins as a type and a name can is a declaration." */
    private static void declarations() {
        House.body(31, "`n<n> x;");
        House.body(31, "`n<n> x = 1;");
        noBody("n<n> x`.y = 1;", "n<n> x `+ 1;", "n<n> x`++;", "n<n, n> x`(1);", "n[] x`.y;", "A x`.y;", "A x`(1);");
        noBody("n < n`;", "n < n > 1`;", "n < n > (n)`;", "n<n>`;", "n[]`;", "n[] `= 1;", "n<n, n`;", "n<n>[]`;", "n<n>[] `= 1;", "n<n[]> `= 1;", "n<n[0] > n`;");
        House.body(31, "for (`n<n> x : null) ;");
        noBody("for (n < n`; ; ) ;", "for (n<n> x`++; ; ) ;", "for (n<n>`; ; ) ;");
        House.body(0, "int[] a = null; a[0] = 1; a[n] = 2; boolean b = n < n; f(n);");
    }

    private static void tested(int fault, String... values) {
        for (String v : values) {
            House.due(fault, "class A { boolean f(Object o, int b, int[] r) { return " + v + "; } }");
        }
    }

    /** "< <= >= > and instanceof type .. from the left": a < behind a type's name begins type arguments, or stands behind the instanceof. */
    private static void lessBehindInstanceof() {
        tested(42, "o instanceof A `< 1", "o instanceof A `< b", "o instanceof A `< b > b", "o instanceof A `<= b", "o instanceof A `> b", "o instanceof A `< b < b", "o instanceof A `< b + b", "o instanceof A `< -b");
        tested(42, "o instanceof A `< b > (b)", "o instanceof A `< b > -b", "o instanceof A `< b > ++b", "o instanceof A `< b > 1", "o instanceof A `< b > this.f(o, b, r)", "o instanceof A `< b > (int) b", "o instanceof A `< b > !true", "o instanceof A `< b > new A[b].length");
        tested(42, "o instanceof A `< (b)", "o instanceof A `< r[0]", "o instanceof A `< r.length", "o instanceof A `< b++", "o instanceof A `< b && true", "o instanceof A `< b ? true : false", "(o instanceof A `< b)", "o instanceof A[] `< b", "o instanceof A[] `< b > b", "o instanceof A `< b == true", "o instanceof A `< b instanceof Object");
        tested(42, "o instanceof A `< b >> b", "o instanceof A `< b >>> b", "o instanceof A `< b >= b", "o instanceof A `< b >>= b", "o instanceof A `< b < b >> b", "o instanceof A `< b << b");
        tested(43, "`g(o instanceof A < b, b > b)", "`g(o instanceof A < b, b >> b)", "`g(o instanceof A < b, b)", "`g(true ? true : o instanceof A < b, b >> b)");
        tested(31, "o instanceof `A<A>", "(o instanceof `A<A>)", "o instanceof `A<A> && true", "o instanceof `A<A>[]", "o instanceof `A<A, A>", "o instanceof `A<A[]>", "o instanceof `A<int[]> > b", "o instanceof `A<int[]>> b", "o instanceof `A<A> > b", "o instanceof `A<A> < b");
        tested(31, "o instanceof `A<A> ? true : false", "true ? o instanceof `A<A> : false", "o instanceof `A<A> == true", "o instanceof `A<A> instanceof Object", "o instanceof `A<A> = true", "o instanceof `A<A<A>>", "o instanceof `A<A, A>> b", "(o instanceof `A<A, A>> b)");
        tested(1, "o instanceof A<b[]> `b", "o instanceof A<b, b> `b", "o instanceof A<int[]> `1", "o instanceof A<b, `1", "o instanceof A < b > `* b", "o instanceof A<b>`.f", "o instanceof A<b>[`1]", "o instanceof A<int`>", "o instanceof A<b, b`", "o instanceof A < `", "o instanceof A<b[]> `switch");
        tested(2, "o instanceof A `<>", "o instanceof A<`?>", "o instanceof A<b, `?>", "o instanceof A < b > `switch", "o instanceof A<b> `<>", "o instanceof A<b, int[], `?>");
        House.due(1, "class A { boolean x = null instanceof A<b, c> `d; }");
        House.due(31, "class A { boolean x = null instanceof `A<A, A>> 1; }");
        House.due(0, "class A { boolean x = null instanceof A, b, c; }");
        House.due(42, "class A { boolean[] x = { null instanceof A `< 1, 2 >> 3 }; }");
    }

    /** "<< >> >>>, + -, * / %" bind closer than instanceof: behind its type they can't stand. */
    private static void closerBehindInstanceof() {
        for (String sign : new String[] {"<<", ">>", ">>>", "+", "-", "*", "/", "%", "++", "--"}) {
            tested(1, "o instanceof A `" + sign + " b", "true == o instanceof A `" + sign + " b", "o instanceof A[] `" + sign + " b", "(o instanceof A `" + sign + " b)");
        }
        tested(42, "(o instanceof A) `+ b", "b `+ o instanceof A", "b `<< o instanceof A");
        tested(0, "o instanceof A == o instanceof A", "o instanceof A & true", "!(o instanceof A) ^ true", "true || o instanceof A", "o instanceof A ? o instanceof A : false");
    }

    public static void main(String[] args) {
        lessBehindInstanceof();
        closerBehindInstanceof();
        kinds();
        members();
        types();
        statements();
        greater();
        expressions();
        declarations();
        House.end("grammar");
    }
}
