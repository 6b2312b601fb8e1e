/**
 * The types of conditionals [15.25] and the conversions of their parts, by the specification's rules written down
 * once more, for all pairs of operands; and what the document tells of those that are no numbers and no booleans.
 */
public final class ConditionalRules {
    private static final String HEAD = "class N { static Object n; } class B { } class D extends B { } interface F { } class A<T extends Integer, U extends B> { "
        + "boolean z; Boolean zz; byte b; Byte bb; short s; Short ss; char c; Character cc; int i; Integer ii; long l; Long ll; "
        + "Object o; B p; D d; F f; T t; U u; int[] q; Object[] r; B[] v; D[] w; <V> V id(V v) { return v; } <V extends Byte> V in(V v) { return v; } "
        + "<V extends T> V un(V v) { return v; } <V, W extends V> W of(W v) { return v; } <V> Long bx(V v) { return 1L; } <V> short nm(V v) { return 1; } "
        + "<V> T tt(V v) { return t; } <V> V[] ro(V v) { return null; } void m(boolean k) { for (; ; ";

    // name, type, what it counts as (a primitive type, or the type itself), value of a constant of type int
    private static final String[][] OPERANDS = {
        {"z", "boolean", "boolean", ""}, {"zz", "Boolean", "boolean", ""}, {"true", "boolean", "boolean", ""},
        {"b", "byte", "byte", ""}, {"bb", "Byte", "byte", ""}, {"(byte) 7", "byte", "byte", ""},
        {"s", "short", "short", ""}, {"ss", "Short", "short", ""}, {"(short) 7", "short", "short", ""},
        {"c", "char", "char", ""}, {"cc", "Character", "char", ""}, {"'a'", "char", "char", ""},
        {"i", "int", "int", ""}, {"ii", "Integer", "int", ""}, {"t", "T", "int", ""},
        {"l", "long", "long", ""}, {"ll", "Long", "long", ""}, {"5L", "long", "long", ""},
        {"7", "int", "int", "7"}, {"127", "int", "int", "127"}, {"128", "int", "int", "128"}, {"-128", "int", "int", "-128"},
        {"-129", "int", "int", "-129"}, {"32767", "int", "int", "32767"}, {"32768", "int", "int", "32768"}, {"65535", "int", "int", "65535"},
        {"65536", "int", "int", "65536"}, {"-32768", "int", "int", "-32768"}, {"-32769", "int", "int", "-32769"},
        {"null", "null", "null", ""}, {"o", "Object", "Object", ""}, {"p", "B", "B", ""}, {"d", "D", "D", ""}, {"f", "F", "F", ""},
        {"u", "U", "U", ""}, {"this", "A", "A", ""}, {"q", "int[]", "int[]", ""}, {"r", "Object[]", "Object[]", ""},
        {"v", "B[]", "B[]", ""}, {"w", "D[]", "D[]", ""},
        {"this.<Integer>id(ii)", "Integer", "Integer", ""}, {"this.<Boolean>id(zz)", "Boolean", "Boolean", ""}, {"this.<Byte>id(bb)", "Byte", "Byte", ""},
        {"this.<T>id(t)", "T", "T", ""}, {"this.<Byte>in(bb)", "Byte", "byte", ""}, {"this.<T>un(t)", "T", "int", ""}, {"this.<D>id(d)", "D", "D", ""},
        {"this.<Object, Long>of(ll)", "Long", "Long", ""}, {"this.<D>bx(d)", "Long", "long", ""}, {"this.<D>nm(d)", "short", "short", ""},
        {"this.<D>tt(d)", "T", "int", ""}, {"this.<D>ro(d)", "D[]", "D[]", ""}, {"this.<Integer>ro(ii)[0]", "Integer", "int", ""}};
    private static final String[] PRIMS = {"boolean", "byte", "short", "char", "int", "long"};
    private static final String[] BOXES = {"Boolean", "Byte", "Short", "Character", "Integer", "Long"};

    private static int index(String[] list, String s) {
        for (int i = 0; i < list.length; i++) {
            if (list[i].equals(s)) {
                return i;
            }
        }
        return -1;
    }

    private static boolean number(String s) {
        return index(PRIMS, s) > 0;
    }

    private static boolean fits(String value, String prim) {
        if (value.isEmpty()) {
            return false;
        }
        int v = Integer.parseInt(value);
        return prim.equals("byte") ? v == (byte) v : prim.equals("short") ? v == (short) v : prim.equals("char") && v == (char) v;
    }

    private static String boxed(String type) {
        int i = index(PRIMS, type);
        return i >= 0 ? BOXES[i] : type;
    }

    private static boolean below(String a, String b) {
        if (a.equals(b) || b.equals("Object") || a.equals("null")) {
            return true;
        }
        String up = a.equals("D") ? "B" : a.equals("U") ? "B" : a.equals("T") ? "Integer" : a.equals("D[]") ? "B[]" : a.equals("B[]") ? "Object[]" : "";
        return !up.isEmpty() && below(up, b);
    }

    /** [15.25]: the type of x ? a : b; "" if there is none (54). */
    private static String joined(String[] a, String[] b) {
        if (a[1].equals(b[1])) {
            return a[1];
        }
        if (a[2].equals("boolean") && b[2].equals("boolean")) {
            return "boolean";
        }
        if (number(a[2]) && number(b[2])) {
            if (a[2].equals(b[2])) {
                return a[2];
            }
            if ((a[2] + b[2]).equals("byteshort") || (a[2] + b[2]).equals("shortbyte")) {
                return "short";
            }
            if (fits(b[3], a[2])) {
                return a[2];
            }
            if (fits(a[3], b[2])) {
                return b[2];
            }
            return a[2].equals("long") || b[2].equals("long") ? "long" : "int";
        }
        String x = boxed(a[1]);
        String y = boxed(b[1]);
        return below(x, y) ? y : below(y, x) ? x : "";
    }

    private static int kindOf(String type) {
        int prim = index(PRIMS, type);
        return prim >= 0 ? prim : type.equals("null") ? 7 : type.equals("T") || type.equals("U") ? 9 : type.endsWith("]") ? 10 : 8;
    }

    private static int conversion(String from, String counts, String to) {
        int a = index(PRIMS, from);
        int b = index(PRIMS, to);
        if (from.equals(to)) {
            return 0;
        }
        if (a >= 0 && b >= 0) {
            boolean widens = b > 3 ? a < b : b == 2 && a == 1;
            return widens ? 1 : 2;
        }
        if (a >= 0) {
            return boxed(from).equals(to) ? 3 : 4;
        }
        return b < 0 ? 7 : counts.equals(to) ? 5 : 6;
    }

    private static int at(FrontHouse x, int place) {
        for (int i = 0; i < x.count(3); i++) {
            if (x.expression(i, 0) == place) {
                return i;
            }
        }
        return -1;
    }

    /** Where an operand's PLACE is: a call's its name's, an element's its [. */
    private static int offset(String operand) {
        return operand.indexOf('[') > 0 ? operand.indexOf('[') : operand.indexOf(".<") > 0 ? operand.indexOf('>') + 1 : 0;
    }

    private static void pair(String[] a, String[] b) {
        String ahead = HEAD + "N.n = k ? ";
        String text = ahead + a[0] + " : " + b[0] + ") ; } }";
        int ask = ahead.length() - 2;
        String due = joined(a, b);
        if (due.isEmpty()) {
            House.place(54, ask, text);
            return;
        }
        FrontHouse x = House.taken(text);
        House.same(text + "\n   type", x.expression(at(x, ask), 1), kindOf(due));
        int yes = at(x, ask + 2 + offset(a[0]));
        int no = at(x, ask + 2 + a[0].length() + 3 + offset(b[0]));
        House.same(text + "\n   first part", x.expression(yes, 2), conversion(a[1], a[2], due));
        House.same(text + "\n   second part", x.expression(no, 2), conversion(b[1], b[2], due));
    }

    /** A conditional is put together of three parts; it is a constant if what counts of them is, and has its value. */
    private static void constants() {
        String[] texts = {"true ? 1 : 2", "false ? 1 : 2", "1 < 2 ? 'a' : 'b'", "1 > 2 ? 'a' : 'b'", "true ? 'a' : 200", "false ? 'a' : 200",
            "true ? -1 : 'a'", "false ? -1 : 'a'", "true ? 1L : 2", "false ? 1L : 2", "true ? false : true", "false ? false : true",
            "true ? (byte) 1 : (short) 300", "false ? (byte) 1 : (short) 300", "true ? 1 : 1 / 0", "false ? 1 / 0 : 2L", "true ? 1 / 0 : 1", "true ? 1 : (1 / 0)",
            "k ? 1 : 2", "true ? i : 2", "true ? 1 : null", "true ? 1 : i / 0"};
        long[] values = {1, 2, 97, 98, 97, 200, -1, 97, 1, 2, 0, 1, 1, 300, 1, 2, 0, 0, 0, 0, 0, 0};
        int[] types = {4, 4, 3, 3, 3, 3, 4, 4, 5, 5, 0, 0, 2, 2, 4, 5, 4, 4, 4, 4, 8, 4};
        for (int i = 0; i < texts.length; i++) {
            String ahead = "class A { boolean k; int i; Object o = ";
            FrontHouse x = House.taken(ahead + texts[i] + "; }");
            int e = at(x, ahead.length() + texts[i].indexOf('?'));
            House.same(texts[i] + " is a constant", x.expression(e, 3), i < 16 ? 1 : 0);
            House.same(texts[i], x.constant(e), values[i]);
            House.same(texts[i] + " has the type", x.expression(e, 1), types[i]);
        }
    }

    public static void main(String[] args) {
        for (String[] a : OPERANDS) {
            for (String[] b : OPERANDS) {
                pair(a, b);
            }
        }
        constants();
        House.end("conditionals by the specification's rules");
    }
}
