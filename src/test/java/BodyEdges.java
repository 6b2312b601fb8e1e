/** Part III of the document, sentence by sentence: what breaks each rule of a body, and what just doesn't. */
public final class BodyEdges {

    /** 40: "a formal's, local's, label's, catch's name that is there in its scope [6.4], [14.7] (at the second one)". */
    private static void namesTwice() {
        House.due(40, "class A { void f(int x, int `x) { } }");
        House.due(40, "class A { A(int x, int y, int `x) { } }");
        House.due(40, "class A { void f(int x) { int `x; } }");
        House.due(40, "class A { void f(int x) { { int `x; } } }");
        House.body(40, "int x, `x;");
        House.body(40, "int x; for (int `x = 0; ; ) ;");
        House.body(40, "int x; for (int `x : new int[1]) ;");
        House.body(40, "for (int x = 0; ; ) { int `x; }");
        House.body(40, "for (int x : new int[1]) { int `x; }");
        House.body(40, "int e; try { } catch (Error `e) { }");
        House.body(40, "try { } catch (Error e) { int `e; }");
        House.body(40, "switch (n) { case 1: int x; case 2: int `x; }");
        House.body(0, "{ int x; } { int x; } for (int x = 0; x < 1; x++) ; for (int x : new int[1]) ; try { int x; } catch (Error x) { } int x;");
        House.body(0, "int n, A, g, Error; n = 1;");
        House.body(40, "a: `a: ;");
        House.body(40, "a: { b: { `a: ; } }");
        House.body(0, "a: ; a: ; int a; { a: { } }");
        House.body(0, "n: A: f: ;");
    }

    /** 40: "a name that means nothing where it stands ([6.5]; a local stands ahead of a field, a field ahead of a type, a var ahead of a kind ..". */
    private static void namesUnknown() {
        House.body(40, "n = `x;");
        House.body(40, "`x = 1;");
        House.body(40, "`x++;");
        House.body(40, "n = `x.y;");
        House.body(40, "`x.f();");
        House.body(40, "n = `x[0];");
        House.body(40, "n = `A;");
        House.body(40, "n = `Object;");
        House.body(40, "n = (`A).n;");
        House.body(40, "{ int x; } n = `x;");
        House.body(40, "n = `x; int x;");
        House.body(40, "for (int i = 0; ; ) break; n = `i;");
        House.body(40, "try { } catch (Error e) { } n = 1; Object o = `e;");
        House.body(40, "for (int i : new int[`i]) ;");
        House.body(40, "int a = `b, b = 1;");
        House.body(0, "int a = 1, b = a;");
        House.body(40, "n = A.`x;");
        House.body(40, "n = Object.`x;");
        House.body(40, "int[] a = null; n = a.`size;");
        House.body(40, "n = n.`x;");
        House.body(40, "n = null.`x;");
        House.body(0, "int[] a = null; n = a.length; n = new int[1].length;");
        House.due(40, "class A { int A; int x = A.`y; static int y; }");
        House.due(0, "class A { static int y; int x = A.y; }");
        House.due(40, "class A { static int y; void f(int A) { y = A.`y; } }");
        House.due(40, "class A<T> { int x = T.`y; }");
        House.due(40, "class A<T> { void f() { T.`f(); } }");
        House.due(40, "class A<B> { int x = B.`y; } class B { static int y; }");
        House.due(40, "class A<B> { static int x = `B.y; } class B { static int y; }");
        House.due(40, "class A { int x; } class B extends A { private int y; } class C extends B { int z = x + `y; }");
        House.due(40, "class G { int x; } class P extends G { private int x; } class C extends P { int z = `x; }");
    }

    /** 40: "a field in its own kind's initializers ahead of being declared [8.3.3] (at its simple name; what an assignment .. names on its left side aside)". */
    private static void ahead() {
        House.due(40, "class A { int x = `y; int y; }");
        House.due(40, "class A { int x = `x; }");
        House.due(40, "class A { int x = 1 + `x; }");
        House.due(40, "class A { static int x = `y; static int y; }");
        House.due(40, "class A { int x = `y, y; }");
        House.fine("class A { int y; int x = y; }");
        House.fine("class A { int x = this.y; int y; static int z = A.w; static int w; }");
        House.fine("class A { int x = y; static int y; }");
        House.fine("class A { int x = y = 1; int y; }");
        House.fine("class A { int x = (y) = 1; int y; }");
        House.fine("class A { int x = y += 1; int y; }");
        House.fine("class A { int x = x = 1; }");
        House.due(40, "class A { int x = `y++; int y; }");
        House.due(40, "class A { int x = --`y; int y; }");
        House.due(40, "class A { int x = `y[0] = 1; int[] y; }");
        House.due(40, "class A { int x = y = `z; int y, z; }");
        House.due(40, "class A { int x = y = `y; int y; }");
        House.fine("class A { int x = f(); int f() { return y; } int y; }");
        House.fine("class P { int y; } class A extends P { int x = y; }");
        House.due(40, "class A { int x = new A(`y).x; int y; A(int z) { } }");
        House.due(40, "class A { final int x = `y; final int y = 1; }");
    }

    /** 41: "a value that can't go where it stands, by [5.2], [5.3] .. at its PLACE". */
    private static void values() {
        String[] types = {"boolean", "byte", "short", "char", "int", "long"};
        String[] goes = {"100000", "011011", "001011", "000111", "000011", "000001"};
        for (int i = 0; i < 6; i++) {
            for (int j = 0; j < 6; j++) {
                int fault = goes[i].charAt(j) == '1' ? 0 : 41;
                House.due(fault, "class A { " + types[i] + " x; " + types[j] + " y = `x; }");
                House.due(fault, "class A { void f(" + types[i] + " x, " + types[j] + " y) { y = `x; } }");
                House.due(fault, "class A { " + types[j] + " f(" + types[i] + " x) { return `x; } }");
                House.due(fault, "class A { void f(" + types[i] + " x) { " + types[j] + "[] y = { `x }; } }");
                House.due(fault == 0 ? 0 : 43, "class A { void f(" + types[i] + " x) { `g(x); } void g(" + types[j] + " y) { } }");
            }
        }
        House.body(0, "byte b = 127, c = -128, d = 'a'; short s = 32767, t = -32768; char x = 65535, y = 0, z = 'z';");
        House.body(41, "byte b = `128;");
        House.body(41, "byte b = `-129;");
        House.body(41, "short b = `32768;");
        House.body(41, "short b = `-32769;");
        House.body(41, "char b = `65536;");
        House.body(41, "char b = `-1;");
        House.body(41, "short b = `'\\uffff';");
        House.body(0, "Byte b = 127; Short s = -32768; Character c = 65535; Integer i = 2147483647; Byte d = 'a'; Character e = 97;");
        House.body(41, "Byte b = `128;");
        House.body(41, "Short b = `32768;");
        House.body(41, "Character b = `-1;");
        House.body(41, "Long b = `1;");
        House.body(41, "byte b = `1L;");
        House.body(41, "int b = `1L;");
        House.body(41, "Integer b = `'a';");
        House.body(0, "final int k = 5; byte b = k; byte c = k + 1; Byte d = k;");
        House.body(41, "int k = 5; byte b = `k;");
        House.due(43, "class A { void f(byte b) { } void g() { `f(1); } }");
        House.body(41, "boolean b = `1;");
        House.body(41, "int i = `null;");
        House.body(41, "Integer i = `true;");
        House.body(0, "Object o = 1; o = true; o = null; o = new int[1]; Object[] p = new A[1]; Throwable t = new Error(); Integer i = null;");
        House.body(41, "A a = `new Object();");
        House.body(41, "Object[] p = `new int[1];");
        House.body(41, "int[] p = `new byte[1];");
        House.body(0, "Integer w = 1; int i = w; long l = w; Byte b = 1; int k = b;");
        House.body(41, "Integer w = 1; short i = `w;");
        House.body(41, "Integer w = 1; Long l = `w;");
    }

    /** 41: "conditions: boolean or Boolean; indices and sizes: int behind promotion; throw: ..; the row of a for: an array". */
    private static void conditions() {
        String[] heads = {"if (`%) ;", "while (`%) ;", "do ; while (`%);", "for (; `%; ) ;", "n = `% ? 1 : 2;"};
        for (String h : heads) {
            House.body(41, h.replace("%", "n"));
            House.body(41, h.replace("%", "null"));
            House.body(0, "boolean b = n > 1; Boolean c = b; Object x;" + h.replace("`%", "b") + h.replace("`%", "c"));
            House.body(53, h.replace("%", "g()"));
        }
        String[] index = {"n = (new int[1])[`%];", "n = a[`%];", "a[`%] = 1;", "Object q = new int[`%][];"};
        for (String use : index) {
            House.body(41, "int[] a = null; long k = 1; " + use.replace("%", "k"));
            House.body(41, "int[] a = null; " + use.replace("%", "true"));
            House.body(41, "int[] a = null; " + use.replace("%", "null"));
            House.body(41, "int[] a = null; Long k = null; " + use.replace("%", "k"));
            String[] fine = {"byte", "short", "char", "int", "Byte", "Short", "Character", "Integer"};
            for (String t : fine) {
                House.body(0, "int[] a = null; " + t + " k = 1; " + use.replace("`%", "k"));
            }
        }
        House.body(41, "throw `1;");
        House.body(41, "throw `new Object();");
        House.body(41, "throw `new Error[1];");
        House.body(0, "if (n > 1) throw null; throw new Error();");
        House.body(41, "for (int i : `n) ;");
        House.body(41, "for (int i : `null) ;");
        House.body(41, "for (int i : `new Object()) ;");
        House.body(41, "for (byte i : `new int[1]) ;");
        House.body(0, "for (long i : new int[1]) ; for (Integer i : new int[1]) ; for (int i : new Integer[1]) ; for (Object i : new int[1][1]) ;");
        House.body(41, "int x = `{ };");
        House.body(41, "int x = `{ 1 };");
        House.body(41, "Object x = `{ 1 };");
        House.body(41, "int[] x = { `{ 1 } };");
        House.body(41, "int[][] x = { `1 };");
        House.due(41, "class A { A x = `{ }; }");
        House.body(0, "int[][] x = { { 1 }, { }, null, new int[1] };");
    }

    /** 42: "operands that an operator can't have [15.14] .. [15.26], [ behind what is no array (at its PLACE)". */
    private static void operands() {
        String[] numbers = {"+", "-", "*", "/", "%", "<<", ">>", ">>>", "<", "<=", ">", ">=", "&", "|", "^"};
        for (String op : numbers) {
            boolean bits = op.equals("&") || op.equals("|") || op.equals("^");
            String head = "boolean b = true; Boolean c = b; Integer i = 1; char k = 1; long l = 1; Object o = null; ";
            House.body(0, head + "o = n " + op + " i; o = k " + op + " l; o = 'a' " + op + " 1L;");
            House.body(bits ? 0 : 42, head + "o = b `" + op + " c;");
            House.body(42, head + "o = n `" + op + " b;");
            House.body(42, head + "o = b `" + op + " n;");
            House.body(42, head + "o = n `" + op + " null;");
            House.body(42, head + "o = o `" + op + " n;");
            boolean asks = op.equals("<") || op.equals("<=") || op.equals(">") || op.equals(">=");
            if (!asks) {
                House.body(0, head + "n " + op + "= i; k " + op + "= l;");
                House.body(42, head + "n `" + op + "= b;");
                House.body(42, head + "o `" + op + "= 1;");
                House.body(bits ? 0 : 42, head + "b `" + op + "= true;");
                House.body(42, head + "Byte y = 1; y `" + op + "= 1;");
                House.body(op.length() > 1 ? 0 : 42, head + "i `" + op + "= l;");
                House.body(0, head + "Long y = 1L; y " + op + "= n;");
            }
        }
        String[] logic = {"&&", "||"};
        for (String op : logic) {
            House.body(0, "boolean b = true; Boolean c = b; b = b " + op + " c;");
            House.body(42, "boolean b = true `" + op + " 1;");
            House.body(42, "boolean b = null `" + op + " true;");
        }
        String[] unary = {"+", "-", "~"};
        for (String op : unary) {
            House.body(0, "Byte b = 1; n = " + op + "b + " + op + "'a';");
            House.body(42, "n = `" + op + "true;");
            House.body(42, "n = `" + op + "null;");
        }
        House.body(0, "Boolean c = true; boolean b = !c;");
        House.body(42, "boolean b = `!1;");
        House.body(42, "boolean b = true; b`++;");
        House.body(42, "Object o = null; `--o;");
        House.body(0, "Byte b = 1; b++; ++b; char c = 1; c--; Long l = 1L; l++;");
        House.body(42, "boolean b = 1 `== true;");
        House.body(42, "boolean b = null `!= 1;");
        House.body(42, "boolean b = new Object() `== 1;");
        House.body(0, "Integer i = 1; Long l = 1L; boolean b = i == 1L; b = l == 1; b = i != null; Boolean c = b; b = b == c;");
        House.body(42, "n = n`[0];");
        House.body(42, "n = new A()`[0];");
        House.body(42, "n = null`[0];");
        House.body(42, "int[] a = null; n = a[0]`[0];");
    }

    public static void main(String[] args) {
        namesTwice();
        namesUnknown();
        ahead();
        values();
        conditions();
        operands();
        House.end("names, values and operands");
    }
}
