/** What is REFUSED (fault 2), and beside each of it what isn't; and that 2 goes ahead of 1 ahead of 3. */
public final class RefusedEdges {

    private static void literals() {
        House.due(2, "class A { Object o = `\"\"; }");
        House.due(2, "class A { Object o = `\"x; }");
        House.due(2, "class A { Object o = `\"\"\"\n x\"\"\"; }");
        House.due(2, "class A { Object o = `\"");
        House.due(2, "class A { Object o = `\\u0022x\"; }");
        House.due(2, "`\"\"");
        String[] floats = {"1.", "1.0", ".1", "1e1", "1E+1", "1e-1", "1f", "1F", "1d", "1D", "0f", "0.", "00.", "08f", "09e1", "1_0.0_1", "0x1p1", "0x1P-1",
            "0x.8p0", "0x1.p0", "0X1.8p+1", "0x1p1f", "1.e1", "1.f"};
        for (String s : floats) {
            House.due(2, "class A { int i = `" + s + "; }");
        }
        House.due(1, "class A { int i = 1`e; }");
        House.due(1, "class A { int i = 1`e_1; }");
        House.due(1, "class A { int i = 1`e+; }");
        House.due(1, "class A { int i = 0x1`p; }");
        House.due(1, "class A { int i = 0x1`p+; }");
        House.due(2, "class A { int i = 0x1`.8; }");
        House.due(1, "class A { int i = 0`x.8p; }");
        House.due(2, "class A { int i = 0b1`.1; }");
        House.due(1, "class A { int i = 0b1`f; }");
        House.due(2, "class A { int i = 1L`.1; }");
        House.due(1, "class A { int i = 1L`f; }");
        House.fine("class A { int i = 0x1f, j = 0x1d, k = 0x1e1; }");
        House.due(1, "class A { int i = (`.x; }");
    }

    private static void words() {
        String[] words = {"assert", "double", "enum", "float", "import", "native", "package", "strictfp", "synchronized", "transient", "volatile",
            "var", "yield", "record", "sealed", "permits"};
        for (String w : words) {
            House.due(2, "`" + w);
            House.due(2, "class `" + w + " { }");
            House.due(2, "class A { `" + w + " x; }");
            House.due(2, "class A { int `" + w + "; }");
            House.due(2, "class A { int x `" + w + "; }");
            House.body(2, "`" + w + " x;");
            House.body(2, "int `" + w + ";");
            House.body(2, "n = `" + w + ";");
            House.body(2, "n = A.`" + w + ";");
            House.body(2, "`" + w + "();");
            House.body(2, "n = n `" + w + ";");
            House.fine("class A { int " + w + "s; }");
        }
        House.due(1, "`non-sealed class A { }");
        House.due(2, "class A { } `@interface B { }");
        House.due(2, "`@X class A { }");
        House.due(2, "class A { void f(`@X int i) { } }");
        House.body(2, "n = `@;");
        House.body(2, "n = x `-> x;");
        House.body(1, "n = (`) -> x;");
        House.body(2, "n = A`::f;");
        House.body(2, "switch (n) { case 1 `-> n++; }");
        House.body(2, "switch (n) { default `-> n++; }");
        House.body(0, "n = n - - - n; boolean b = n-- > n, c = n-->n;");
    }

    /** "? where a type argument or an operand may begin". */
    private static void marks() {
        House.due(2, "class A<T> { A<`?> a; }");
        House.due(2, "class A<T> { A<`? extends A> a; }");
        House.due(2, "class A<T, U> { A<T, `?> a; }");
        House.due(1, "class A<`?> { }");
        House.due(1, "class A<T `? > { }");
        House.due(1, "class A { `? x; }");
        House.due(1, "class A { int `? x; }");
        House.due(2, "class A<T> { void f(A<A<`?>> a) { } }");
        House.body(2, "n = `? 1 : 2;");
        House.body(2, "n = n + `?;");
        House.body(2, "n = -`?;");
        House.body(2, "n = (`?);");
        House.body(2, "n = (int) `?;");
        House.body(2, "Object o = (A[]) `?;");
        House.body(2, "f(`?);");
        House.body(2, "f(1, `?);");
        House.body(2, "`? x;");
        House.body(2, "return `?;");
        House.body(2, "int[] a = { `? };");
        House.body(2, "Object o = new int[`?];");
        House.body(2, "Object o = new A<`?>();");
        House.body(2, "A<`?> a = null;");
        House.body(2, "A<A, `?> a = null;");
        House.body(2, "Object o = (A<`?>) null;");
        House.body(2, "A.<`?>f(1);");
        House.body(2, "boolean b = null instanceof A<`?>;");
        House.body(1, "n = true ? 1 : 2 `);");
        House.body(0, "boolean b = true; n = b ? 1 : b ? 2 : 3; n = (b) ? 1 : 2;");
    }

    /** "< with a token behind it that begins with > (where type arguments or an operator may stand)". */
    private static void diamonds() {
        String[] closers = {">", ">>", ">>>", ">=", ">>=", ">>>="};
        for (String c : closers) {
            House.due(2, "class A<T> { A`<" + c + " a; }");
            House.due(2, "class A<T> { A`< /**/ " + c + " a; }");
            House.due(2, "class A<T> extends A`<" + c + " { }");
            House.due(2, "class A<T extends A`<" + c + "> { }");
            House.due(1, "class A<`" + c + " { }");
            House.due(1, "class A { <`" + c + " void f() { } }");
            House.due(1, "class A { int `<" + c + " a; }");
            House.due(1, "class A { A[] `<" + c + " a; }");
            House.body(2, "Object o = new A`<" + c + "();");
            House.body(2, "A`<" + c + " a;");
            House.body(2, "A<A`<" + c + "> a;");
            House.body(2, "A<A, A`<" + c + "> a;");
            House.body(2, "A.`<" + c + "f(1);");
            House.body(2, "boolean b = n `<" + c + " 1;");
            House.body(2, "boolean b = (n) `<" + c + " 1;");
            House.body(2, "boolean b = n + 1 `<" + c + " 1;");
            House.body(2, "Object o = (A`<" + c + ") null;");
            House.body(2, "n++ `<" + c + " 1;");
            House.body(1, "n = `<" + c + " 1;");
            House.body(1, "int `<" + c + " a;");
        }
        House.body(1, "boolean b = n <= `> 1;");
        House.body(1, "boolean b = n << `> 1;");
    }

    /** "& in a bound; { of an initializer in a class, of a body behind new .. ( .. )". */
    private static void bodies() {
        House.due(2, "class A<T extends Object `& Object> { }");
        House.due(2, "class A { <T extends A `& A> void f() { } }");
        House.due(2, "class A<T, U extends A<T, T> `& A> { }");
        House.due(1, "class A<T `& A> { }");
        House.due(1, "class A<T extends A `&& A> { }");
        House.due(2, "class A { `{ } }");
        House.due(2, "class A { static `{ } }");
        House.due(2, "class A { int x; `{ x = 1; } }");
        House.due(1, "interface A { `{ } }");
        House.due(1, "interface A { static `{ } }");
        House.body(2, "Object o = new Object() `{ };");
        House.body(2, "new A(1, 2) `{ }");
        House.body(2, "f(new A<A>() `{ });");
        House.body(1, "n = new int[1] `{ };");
        House.body(1, "n = f(1) `{ };");
        House.body(1, "n = new A `{ };");
        House.due(1, "`{ }");
    }

    /** "class, interface where a member or a statement may begin, also behind a member's modifiers, a statement's final". */
    private static void inner() {
        String[] words = {"class", "interface"};
        for (String w : words) {
            House.due(2, "class A { `" + w + " B { } }");
            House.due(2, "interface A { `" + w + " B { } }");
            House.due(2, "class A { ; static abstract public `" + w + " B { } }");
            House.due(2, "interface A { final `" + w + " B { } }");
            House.body(2, "`" + w + " B { }");
            House.body(2, "final `" + w + " B { }");
            House.body(2, "if (n > 0) `" + w + " B { }");
            House.body(2, "a: `" + w + " B { }");
            House.body(2, "do `" + w);
            House.body(2, "switch (n) { case 1: `" + w + " B { } }");
            House.body(2, "switch (n) { case 1: final `" + w + " B { } }");
            House.body(1, "if (n > 0) `final " + w + " B { }");
            House.body(1, "final `final " + w + " B { }");
            House.body(1, "switch (n) { `" + w + " B { } }");
            House.body(1, "n = `" + w + ";");
            House.body(1, "for (`" + w + " B; ; ) ;");
            House.body(1, "for (final `" + w + " B; ; ) ;");
            House.body(1, "`abstract " + w + " B { }");
            House.body(1, "`static " + w + " B { }");
            House.due(1, "class A { int `" + w + "; }");
            House.due(1, "class A { <T> `" + w + " B { } }");
            House.due(1, "class A `" + w + " B { }");
        }
    }

    /** "class, this, super, new behind a . ; switch where an expression may begin; | between types of a catch; ( behind try". */
    private static void others() {
        String[] behind = {"class", "this", "super", "new"};
        for (String w : behind) {
            House.body(2, "Object o = A.`" + w + ";");
            House.body(2, "Object o = f(1).`" + w + ";");
            House.body(2, "Object o = super.`" + w + ";");
            House.body(2, "A.`" + w + "();");
            House.body(1, "A.<A>`" + w + "();");
        }
        House.body(1, "Object o = `int.class;");
        House.body(1, "Object o = A[`].class;");
        House.body(2, "int i = `switch (1) { };");
        House.body(2, "f(`switch (1) { });");
        House.body(2, "int i = 1 + `switch (1) { };");
        House.body(2, "int i = (int) `switch (1) { };");
        House.body(2, "Object o = (A[]) `switch (1) { };");
        House.body(2, "return `switch (1) { };");
        House.body(2, "throw `switch (1) { };");
        House.body(2, "int[] a = { `switch (1) { } };");
        House.body(1, "int i = 1 `switch (1) { };");
        House.body(1, "int `switch;");
        House.body(0, "switch (n) { }");
        House.body(2, "try { } catch (Error `| Exception e) { }");
        House.body(2, "try { } catch (final Error `| Exception e) { }");
        House.body(1, "try { } catch (Error `|| Exception e) { }");
        House.body(1, "try { } catch (Error e `| Exception e) { }");
        House.body(2, "try `(int x) { }");
        House.body(2, "try `() { }");
        House.body(1, "try { } `(");
        House.body(1, "do { } `(");
    }

    /** "at one token 2 ahead of 1 ahead of 3". */
    private static void order() {
        String nine = "f(1, 2, 3, 4, 5, 6, 7, 8, ";
        House.body(3, nine + "`9);");
        House.body(3, nine + "`x);");
        House.body(1, nine + "`);");
        House.body(1, nine + "`, 9);");
        House.body(1, nine + "`2147483648);");
        House.body(1, nine + "`99999999999);");
        House.body(1, nine + "`'');");
        House.body(1, nine + "`int);");
        House.body(2, nine + "`?);");
        House.body(2, nine + "`\"\");");
        House.body(2, nine + "`1.0);");
        House.body(2, nine + "`switch (1) { });");
        House.body(2, nine + "`yield);");
        String formals = "class A { void f(" + House.row("int a", "", ", ", 8) + ", ";
        House.due(3, formals + "`int j) { } }");
        House.due(3, formals + "`final int j) { } }");
        House.due(3, formals + "`A j) { } }");
        House.due(2, formals + "`var j) { } }");
        House.due(2, formals + "`@X int j) { } }");
        House.due(1, formals + "`) { } }");
        House.due(1, formals + "`1) { } }");
        String kinds = House.row("class K", " { } ", "", 24) + "class ";
        House.due(3, kinds + "`L { }");
        House.due(2, kinds + "`record { }");
        House.due(1, kinds + "`1 { }");
        House.due(1, kinds + "`goto { }");
        String args = "class A<T> { A<A, A, A, A, A, A, ";
        House.due(3, args + "`A> a; }");
        House.due(3, args + "`int> a; }");
        House.due(2, args + "`?> a; }");
        House.due(1, args + "`> a; }");
        String deep = "class A { int i = " + House.times("(", 23);
        House.due(3, deep + "`(1");
        House.due(3, deep + "`(int) 1");
        House.due(2, deep + "`? 1");
        House.due(1, deep + "`) 1");
        House.due(3, deep + "`-1");
        House.due(2, deep + "A`<> 1");
        String inits = "class A { int[] a = { " + House.times("1, ", 40);
        House.due(3, inits + "`1 }; }");
        House.due(3, inits + "`{ } }; }");
        House.due(3, inits + "`-1 }; }");
        House.due(2, inits + "`? }; }");
        House.due(1, inits + "`, }; }");
        House.fine(inits + "}; }");
        House.due(1, "class A { int x `a2345678901234567890123456789012; }");
        String members = "class A { int " + House.row("a", "", ", ", 120) + "; int ";
        House.due(3, members + "`z; }");
        House.due(2, members + "`var; }");
        House.due(1, members + "`; }");
    }

    public static void main(String[] args) {
        literals();
        words();
        marks();
        diamonds();
        bodies();
        inner();
        others();
        order();
        House.end("edges of what is refused");
    }
}
