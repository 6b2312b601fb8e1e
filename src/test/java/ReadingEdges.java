/** The edges of part I of the document: bytes, signs, comments, tokens, and what is refused. */
public final class ReadingEdges {

    private static boolean known(int b) {
        return b == 9 || b == 10 || b == 12 || b == 13 || (b >= 32 && b <= 126);
    }

    private static boolean blank(int b) {
        return b == 9 || b == 10 || b == 12 || b == 13 || b == 32;
    }

    /** "9, 10, 12, 13, 32 .. 126 (others are SYNTAX at them, in comments too)". */
    private static void bytes() {
        for (int b = 0; b < 256; b++) {
            String c = String.valueOf((char) b);
            House.due(known(b) ? 0 : 1, "class A { /* `" + c + " */ }");
            House.due(known(b) ? 0 : 1, "class A { // `" + c + "\n }");
            if (!known(b) || blank(b)) {
                House.due(known(b) ? 0 : 1, "class A {`" + c + "}");
                House.due(known(b) ? 0 : 1, "class`" + c + "A { }");
                House.due(known(b) ? 0 : 1, "class A { }`" + c);
            }
            boolean one = known(b) && b != 10 && b != 13 && b != '\'' && b != '\\';
            House.due(one ? 0 : 1, "class A { char c = `'" + c + "'; }");
        }
        House.due(1, "class A { int i = 1`\0; }");
        House.due(1, "class A { int i = a`\u0080; }");
    }

    /** "a \ (behind an even number of them) with u (one or more) and four hexadecimal digits behind". */
    private static void escapes() {
        House.fine("cl\\u0061ss A { }");
        House.fine("cl\\uu0061ss A { }");
        House.fine("cl\\uuuuuuuu0061ss A { }");
        House.fine("\\u0063\\u006C\\u0061\\u0073\\u0073\\u0020\\u0041\\u007b\\u007D");
        House.due(1, "class A { int a`\\u061 b; }");
        House.due(1, "class A { int a`\\u006gb; }");
        House.due(1, "class A { int a`\\u006");
        House.due(1, "class A { int a`\\u");
        House.due(1, "class A { int a`\\uuuu");
        House.due(1, "class A { int a`\\U0061b; }");
        House.due(1, "`cl\\u006");
        House.due(1, "class A { }`\\");
        House.due(1, "class A { // `\\u00\n }");
        House.due(1, "class A { /* `\\u00 */ }");
        House.fine("class A { /* \\\\u00 */ }");
        House.due(1, "class A { /* \\\\`\\u00 */ }");
        House.fine("class A { /* \\\\\\\\u00 */ }");
        House.fine("class A { char c = '\\\\'; }");
        House.due(1, "class A { char c = `'\\\\u005c'; }");
        House.due(1, "class A { char c = `'\\u00'; }");
        House.due(1, "class A { char c = `'\\u00");
        House.due(1, "class A { char c = `'a\\u00'; }");
        House.due(1, "class A { char c = 'a'`\\u00; }");
    }

    /** "a SIGN's place is its first byte's". */
    private static void places() {
        House.due(1, "class A { `\\u0029 }");
        House.due(30, "class A { int x; int `\\u0078; }");
        House.due(40, "class A { int x = `\\u0079; }");
        House.due(42, "class A { boolean b = true `\\u002B true; }");
        House.due(1, "class A { int x = 1 \\u003b\\u003b\\u003b int `}");
    }

    /** "SIGNS of other numbers may stand in comments and character literals alone (SYNTAX at them else)". */
    private static void otherNumbers() {
        String[] other = {"0000", "0008", "000b", "000e", "001a", "001f", "007f", "0080", "00e9", "ffff", "d800"};
        for (String s : other) {
            House.fine("class A { /* \\u" + s + " */ char c = '\\u" + s + "'; } // \\u" + s);
            House.due(1, "class A { `\\u" + s + " }");
            House.due(1, "class A { int a`\\u" + s + "; }");
            House.due(1, "class A { } `\\u" + s);
        }
        String[] blanks = {"0009", "000a", "000c", "000d", "0020"};
        for (String s : blanks) {
            House.fine("class\\u" + s + "A { }");
        }
        House.due(1, "class A { char c = `'\\u000a'; }");
        House.due(1, "class A { char c = `'\\u000d'; }");
        House.fine("class A { char c = '\\u000c', d = '\\u0009', e = '\\u0020', f = '\\u007e'; }");
    }

    /** "COMMENTS [3.7] (SYNTAX at the text's end if one isn't closed)". */
    private static void comments() {
        House.fine("");
        House.fine("/**/");
        House.fine("//");
        House.fine("class A { /***/ /* // */ /* /* */ }");
        House.fine("class A { // */ /* x\n }");
        House.fine("class A { // x\r }");
        House.fine("class A { // x\\u000a }");
        House.due(1, "class A { // x\\u000c }`");
        House.fine("class A { /\\u002a x \\u002a\\u002f }");
        House.due(1, "/*`");
        House.due(1, "/*/`");
        House.due(1, "/**`");
        House.due(1, "class A { } /* *`");
        House.due(1, "class A { } /* * /`");
        House.due(1, "class A { /* }`");
        House.due(1, "class A { `/");
        House.due(1, "class A { } `/ /");
        House.due(1, "class A { // }`");
    }

    /** "TOKENS, as long as they can be [3.2]". */
    private static void tokens() {
        House.due(1, "class A { int i = 0`8; }");
        House.due(1, "class A { int i = 07`8; }");
        House.due(1, "class A { int i = 1`_; }");
        House.due(1, "class A { int i = 0`_; }");
        House.due(1, "class A { int i = 0`x_1; }");
        House.due(1, "class A { int i = 0`x; }");
        House.due(1, "class A { int i = 0`xg; }");
        House.due(1, "class A { int i = 0x1`_; }");
        House.due(1, "class A { int i = 0`b; }");
        House.due(1, "class A { int i = 0`b2; }");
        House.due(1, "class A { int i = 0b1`2; }");
        House.due(1, "class A { int i = 0`b_1; }");
        House.due(1, "class A { long i = 1L`L; }");
        House.due(1, "class A { long i = 1l`0; }");
        House.due(1, "class A { int i = 1`a; }");
        House.fine("class A { int i = 1__0, j = 0_7, k = 0x1_f, l = 0b1_0, m = 0XaF, n = 0B1, o = 00, p = 0; long q = 0l, r = 07L, s = 0x1L, t = 0b1l; }");
        House.fine("class A { int i = 1, j = i+++i, k = i---i, l = i+ ++i, m = i>>>1, n = i>>1; boolean b = i>=1, c = i<=1, d = i!=1; }");
        House.due(1, "class A { int i = 1, j = i++++`i; }");
        House.fine("class A<T> { A<A<T>> a; A<A<A<T>>> b; A<A<A<A<T>>>> c; A<A<T> > d; }");
        House.due(1, "class A<T> { A<A<T>>`> a; }");
        House.due(1, "class A<T> { A<A<A<T>>>`> a; }");
        House.due(1, "class A<T> { A<A<A<T>> `a; }");
        House.due(1, "class A<T> { A<T>`= a; }");
        House.due(1, "class A<T> { A<A<T>>`= a; }");
        House.due(1, "class A<T> { A<A<A<T>>>`= a; }");
        House.due(1, "class A<T> { A<T>`>= a; }");
        House.due(1, "class A { void f(int`.. x) { } }");
    }

    /** "at most 30 SIGNS (else LIMIT at it)". */
    private static void names() {
        String a29 = "a2345678901234567890123456789";
        String a30 = a29 + "0";
        String a31 = a30 + "1";
        House.fine("class " + a29 + " { }");
        House.fine("class " + a30 + " { }");
        House.due(3, "class `" + a31 + " { }");
        House.fine("class \\u0061" + a30.substring(1) + " { }");
        House.due(3, "class `\\u0061" + a31.substring(1) + " { }");
        House.fine("class A<" + a30 + "> { " + a30 + " x; }");
        House.due(3, "class A<`" + a31 + "> { }");
        House.due(3, "class A extends `" + a31 + " { }");
        House.due(3, "class A { `" + a31 + " x; }");
        House.due(3, "class A { int `" + a31 + "; }");
        House.due(3, "class A { void `" + a31 + "() { } }");
        House.due(3, "class A { void f(int `" + a31 + ") { } }");
        House.body(3, "int `" + a31 + ";");
        House.body(3, "`" + a31 + ": ;");
        House.body(3, "n = `" + a31 + ";");
        House.body(3, "n = A.`" + a31 + ";");
        House.body(3, "`" + a31 + "();");
        House.body(3, "break `" + a31 + ";");
        House.body(3, "try { } catch (Error `" + a31 + ") { }");
        House.body(3, "Object o = (`" + a31 + ") null;");
        House.body(3, "Object o = new `" + a31 + "();");
        House.body(3, "`" + a31 + " x;");
        House.body(3, "A `" + a31 + ";");
        House.due(1, "class A { int x `" + a31 + "; }");
        House.due(1, "class A `" + a31 + " { }");
        House.due(3, "class `_" + House.times("$", 30) + " { }");
        House.fine("class _" + House.times("$", 29) + " { }");
    }

    /** "WORDS [3.9] (.. goto, const, _ can stand nowhere; true false null)". */
    private static void words() {
        String[] none = {"goto", "const", "_"};
        for (String w : none) {
            House.due(1, "class `" + w + " { }");
            House.due(1, "class A { int `" + w + "; }");
            House.body(1, "n = `" + w + ";");
            House.body(1, "`" + w + ";");
            House.due(1, "`" + w);
        }
        String[] values = {"true", "false", "null"};
        for (String w : values) {
            House.due(1, "class `" + w + " { }");
            House.body(1, "n = A.`" + w + ";");
        }
        House.fine("class __ { int goto_, constant, $, trueish; }");
        House.fine("class module { int open, when, to, with, uses, provides, requires, exports, opens, transitive; }");
    }

    /** "SYNTAX at one that is too great; 2147483648 and 9223372036854775808L stand behind the sign - alone". */
    private static void integers() {
        House.fine("class A { int i = 2147483647, j = -2147483647, k = -2147483648, l = - 2147483648, m = -/**/2147483648; }");
        House.due(1, "class A { int i = `2147483648; }");
        House.due(1, "class A { int i = `2147483649; }");
        House.due(1, "class A { int i = -`2147483649; }");
        House.due(1, "class A { int i = +`2147483648; }");
        House.due(1, "class A { int i = ~`2147483648; }");
        House.due(1, "class A { int i = -(`2147483648); }");
        House.due(1, "class A { int i = -(int)`2147483648; }");
        House.due(1, "class A { int i = 1 - `2147483648; }");
        House.due(1, "class A { int i = --`2147483648; }");
        House.fine("class A { int i = 1 - -2147483648, j = (-2147483648), k = - -2147483648, l = ~-2147483648, m = (int) -2147483648; }");
        House.fine("class A { long i = 9223372036854775807L, k = -9223372036854775808L, l = - 9_223_372_036_854_775_808l; }");
        House.due(1, "class A { long i = `9223372036854775808L; }");
        House.due(1, "class A { long i = -`9223372036854775809L; }");
        House.due(1, "class A { long i = -(`9223372036854775808L); }");
        House.due(1, "class A { long i = `9223372036854775807; }");
        House.due(1, "class A { long i = -`9223372036854775808; }");
        House.due(1, "class A { long i = `18446744073709551616L; }");
        House.due(1, "class A { int i = `4294967296; }");
        House.due(1, "class A { int i = `99999999999999999999999999999999999999; }");
        String[] behind = {".", "[", "++", "--"};
        for (String s : behind) {
            House.due(1, "class A { int i = -2147483648 `" + s + "; }");
            House.due(1, "class A { long i = -9223372036854775808L `" + s + "; }");
        }
        House.fine("class A { int i = -2147483648 + 1 - -2147483648; boolean b = -2147483648 < 0; }");
        House.fine("class A { int i = 0x7fffffff, j = 0x80000000, k = 0xFFFFFFFF, l = 0x0000000000000000000001, m = -0x80000000; }");
        House.due(1, "class A { int i = `0x100000000; }");
        House.due(1, "class A { int i = -`0x100000000; }");
        House.fine("class A { long i = 0x7fffffffffffffffL, j = 0x8000000000000000L, k = 0xFFFFFFFFFFFFFFFFL; }");
        House.due(1, "class A { long i = `0x10000000000000000L; }");
        House.fine("class A { int i = 017777777777, j = 037777777777, k = 0000000000000000000000001; }");
        House.due(1, "class A { int i = `040000000000; }");
        House.due(1, "class A { int i = `077777777777; }");
        House.fine("class A { long i = 0777777777777777777777L, j = 01777777777777777777777L; }");
        House.due(1, "class A { long i = `02000000000000000000000L; }");
        House.fine("class A { int i = 0b" + House.times("1", 32) + ", j = 0b0" + House.times("1", 32) + "; long k = 0b" + House.times("1", 64) + "L; }");
        House.due(1, "class A { int i = `0b1" + House.times("0", 32) + "; }");
        House.due(1, "class A { long i = `0b1" + House.times("0", 64) + "L; }");
    }

    /** "one SIGN between ', or \b .. or an octal one [3.10.7]; SYNTAX at the ' otherwise". */
    private static void characters() {
        House.fine("class A { char c = 'a', d = '\\b', e = '\\s', f = '\\t', g = '\\n', h = '\\f', i = '\\r', j = '\\\"', k = '\\'', l = '\\\\', m = '\"'; }");
        House.fine("class A { char c = '\\0', d = '\\7', e = '\\00', f = '\\77', g = '\\000', h = '\\377', i = '\\47'; }");
        String[] bad = {"''", "'''", "'ab'", "'\\'", "'\\400'", "'\\378'", "'\\8'", "'\\08'", "'\\478'", "'\\0000'", "'\\a'", "'\\x'", "'\\S'", "'\\ '", "'a", "'\\n", "'", "'\\", "'\\7", "' '".replace(" ", "\n")};
        for (String s : bad) {
            House.due(1, "class A { char c = `" + s);
            House.due(1, "class A { char c = `" + s + "; }");
        }
        House.fine("class A { char c = '\\u0061', d = '\\u005cn', e = '\\u005c\\u006e', f = '\\u005c\\u005c', g = '\\u005c'', h = \\u0027a\\u0027; }");
        House.due(1, "class A { char c = `'\\u0027'; }");
        House.due(1, "class A { char c = `'\\u005c'; }");
    }

    public static void main(String[] args) {
        bytes();
        escapes();
        places();
        otherNumbers();
        comments();
        tokens();
        names();
        words();
        integers();
        characters();
        House.end("edges of signs and tokens");
    }
}
