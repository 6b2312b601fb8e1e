/**
 * The types, conversions and faults of operators [15.15] .. [15.24], [15.26] and of assignments [5.2], by the
 * specification's rules written down once more, for all pairs of operands and all operators.
 */
public final class OperatorRules {
    private static final String HEAD = "class N { static Object n; } class B { } class D extends B { } interface F { } final class Z { } class A<T extends Integer, U extends B> { "
        + "boolean z; Boolean zz; byte b; Byte bb; short s; Short ss; char c; Character cc; int i; Integer ii; long l; Long ll; "
        + "Object o; B p; D d; F f; Z y; T t; U u; int[] q; Object[] r; B[] v; D[] w; F[] x; void m() { for (; ; ";

    // name, type, what it counts as (a primitive type, or the type itself), value of a constant
    private static final String[][] OPERANDS = {
        {"z", "boolean", "boolean", ""}, {"zz", "Boolean", "boolean", ""}, {"true", "boolean", "boolean", "1"},
        {"b", "byte", "byte", ""}, {"bb", "Byte", "byte", ""}, {"s", "short", "short", ""}, {"ss", "Short", "short", ""},
        {"c", "char", "char", ""}, {"cc", "Character", "char", ""}, {"i", "int", "int", ""}, {"ii", "Integer", "int", ""},
        {"t", "T", "int", ""}, {"l", "long", "long", ""}, {"ll", "Long", "long", ""}, {"5L", "long", "long", "5"}, {"'a'", "char", "char", "97"},
        {"7", "int", "int", "7"}, {"128", "int", "int", "128"}, {"32768", "int", "int", "32768"}, {"65536", "int", "int", "65536"},
        {"(-129)", "int", "int", "-129"}, {"null", "null", "null", ""}, {"o", "Object", "Object", ""}, {"p", "B", "B", ""}, {"d", "D", "D", ""},
        {"f", "F", "F", ""}, {"y", "Z", "Z", ""}, {"u", "U", "U", ""}, {"this", "A", "A", ""}, {"q", "int[]", "int[]", ""},
        {"r", "Object[]", "Object[]", ""}, {"v", "B[]", "B[]", ""}, {"w", "D[]", "D[]", ""}, {"x", "F[]", "F[]", ""}};
    private static final String[] PRIMS = {"boolean", "byte", "short", "char", "int", "long"};
    private static final String[] BOXES = {"Boolean", "Byte", "Short", "Character", "Integer", "Long"};
    private static final String[] SIGNS = {"+", "-", "*", "/", "%", "<<", ">>", ">>>", "<", "<=", ">", ">=", "==", "!=", "&", "|", "^", "&&", "||"};

    private static int index(String[] list, String s) {
        for (int i = 0; i < list.length; i++) {
            if (list[i].equals(s)) {
                return i;
            }
        }
        return -1;
    }

    private static boolean number(String s) {
        return index(PRIMS, s) > 0;
    }

    private static boolean prim(String s) {
        return index(PRIMS, s) >= 0;
    }

    private static String boxed(String type) {
        return prim(type) ? BOXES[index(PRIMS, type)] : type;
    }

    private static String up(String a) {
        switch (a) {
            case "D":
            case "U": return "B";
            case "T": return "Integer";
            case "D[]": return "B[]";
            case "B[]":
            case "F[]": return "Object[]";
            default: return a.equals("Object") ? "" : "Object";
        }
    }

    private static boolean below(String a, String b) {
        if (a.equals("null")) {
            return !prim(b);
        }
        for (String x = a; !x.isEmpty(); x = up(x)) {
            if (x.equals(b)) {
                return true;
            }
        }
        return b.equals("Object") && !prim(a);
    }

    private static boolean last(String a) {
        return a.equals("Z") || index(BOXES, a) >= 0;
    }

    /** Whether a thing of one type may be one of the other [5.5]; of the types that stand here. */
    private static boolean alike(String a, String b) {
        if (below(a, b) || below(b, a)) {
            return true;
        }
        if (a.equals("T") || a.equals("U")) {
            return alike(up(a), b);
        }
        if (b.equals("T") || b.equals("U")) {
            return alike(a, up(b));
        }
        if (a.endsWith("[]") && b.endsWith("[]")) {
            String x = a.substring(0, a.length() - 2);
            String y = b.substring(0, b.length() - 2);
            return !prim(x) && !prim(y) && alike(x, y);
        }
        if (a.endsWith("[]") || b.endsWith("[]")) {
            return false;
        }
        return (a.equals("F") && !last(b)) || (b.equals("F") && !last(a));
    }

    private static String promoted(String a, String b) {
        return a.equals("long") || b.equals("long") ? "long" : "int";
    }

    /** The type in which an operator works, "" of things; "42", "52" if it can't. */
    private static String works(String op, String[] a, String[] b) {
        boolean numbers = number(a[2]) && number(b[2]);
        boolean booleans = a[2].equals("boolean") && b[2].equals("boolean");
        switch (op) {
            case "<<":
            case ">>":
            case ">>>": return numbers ? promoted(a[2], "int") : "42";
            case "==":
            case "!=":
                if ((prim(a[1]) || prim(b[1])) && (numbers || booleans)) {
                    return numbers ? promoted(a[2], b[2]) : "boolean";
                }
                return prim(a[1]) || prim(b[1]) ? "42" : alike(a[1], b[1]) ? "" : "52";
            case "&":
            case "|":
            case "^": return booleans ? "boolean" : numbers ? promoted(a[2], b[2]) : "42";
            case "&&":
            case "||": return booleans ? "boolean" : "42";
            default: return numbers ? promoted(a[2], b[2]) : "42";
        }
    }

    private static int kindOf(String type) {
        return prim(type) ? index(PRIMS, type) : type.equals("null") ? 7 : type.equals("T") || type.equals("U") ? 9 : type.endsWith("]") ? 10 : 8;
    }

    private static int conversion(String[] from, String to) {
        int a = index(PRIMS, from[1]);
        int b = index(PRIMS, to);
        if (from[1].equals(to)) {
            return 0;
        }
        if (a >= 0 && b >= 0) {
            return b > 3 ? 1 : b == 2 && a == 1 ? 1 : 2;
        }
        if (a >= 0) {
            return boxed(from[1]).equals(to) ? 3 : 4;
        }
        return b < 0 ? 7 : from[2].equals(to) ? 5 : 6;
    }

    private static int at(FrontHouse x, int place) {
        for (int i = 0; i < x.count(3); i++) {
            if (x.expression(i, 0) == place) {
                return i;
            }
        }
        return -1;
    }

    private static void same(FrontHouse x, String text, int place, int what, int due) {
        House.same(text + "\n   " + what + " at " + place, x.expression(at(x, place), what), due);
    }

    private static int inside(String operand) {
        return operand.startsWith("(") ? 1 : 0;
    }

    private static void binary(String op, String[] a, String[] b) {
        String ahead = HEAD + "N.n = ";
        String text = ahead + a[0] + " " + op + " " + b[0] + ") ; } }";
        int sign = ahead.length() + a[0].length() + 1;
        String p = works(op, a, b);
        if (p.equals("42") || p.equals("52")) {
            House.place(Integer.parseInt(p), sign, text);
            return;
        }
        FrontHouse x = House.taken(text);
        boolean asks = op.equals("==") || op.equals("!=") || op.startsWith("<") && op.length() < 2 || op.equals(">") || op.equals("<=") || op.equals(">=");
        boolean shift = op.equals("<<") || op.equals(">>") || op.equals(">>>");
        same(x, text, sign, 1, kindOf(asks ? "boolean" : p));
        same(x, text, ahead.length() + inside(a[0]), 2, p.isEmpty() ? 0 : conversion(a, p));
        same(x, text, sign + op.length() + 1 + inside(b[0]), 2, p.isEmpty() ? 0 : conversion(b, shift ? promoted(b[2], "int") : p));
    }

    private static void compound(String op, String[] a, String[] b) {
        String text = HEAD + a[0] + " " + op + "= " + b[0] + ") ; } }";
        int sign = HEAD.length() + a[0].length() + 1;
        String p = works(op, a, b);
        // what comes of it must go back by a cast: of a box's that is the box's own number alone
        if (p.equals("42") || (!prim(a[1]) && !a[2].equals(p))) {
            House.place(42, sign, text);
            return;
        }
        FrontHouse x = House.taken(text);
        boolean shift = op.equals("<<") || op.equals(">>") || op.equals(">>>");
        same(x, text, sign, 1, kindOf(a[1]));
        same(x, text, HEAD.length(), 2, 0);
        same(x, text, sign + op.length() + 2 + inside(b[0]), 2, conversion(b, shift ? promoted(b[2], "int") : p));
    }

    private static boolean fits(String value, String to) {
        if (value.isEmpty()) {
            return false;
        }
        int v = Integer.parseInt(value);
        return to.equals("byte") ? v == (byte) v : to.equals("short") ? v == (short) v : to.equals("char") && v == (char) v;
    }

    /** [5.2]: the conversion of what goes there, -1 if it doesn't. */
    private static int goes(String[] from, String to) {
        if (from[1].equals(to)) {
            return 0;
        }
        int a = index(PRIMS, from[1]);
        if (prim(to)) {
            int n = index(PRIMS, from[2]);
            int m = index(PRIMS, to);
            boolean widens = n > 0 && (n == m || (m > 3 && n < m) || (m == 2 && n == 1));
            if (widens || (n == 0 && m == 0)) {
                return conversion(from, to);
            }
            return a > 1 && a < 5 && fits(from[3], to) ? 2 : -1;
        }
        if (a >= 0) {
            boolean small = index(BOXES, to) > 0 && index(BOXES, to) < 4;
            if (below(boxed(from[1]), to)) {
                return conversion(from, to);
            }
            return small && a > 1 && a < 5 && fits(from[3], PRIMS[index(BOXES, to)]) ? 8 : -1;
        }
        return below(from[1], to) ? 7 : -1;
    }

    private static void assignment(String[] a, String[] b) {
        String text = HEAD + a[0] + " = " + b[0] + ") ; } }";
        int sign = HEAD.length() + a[0].length() + 1;
        int due = goes(b, a[1]);
        if (due < 0) {
            House.place(41, sign + 2 + inside(b[0]), text);
            return;
        }
        FrontHouse x = House.taken(text);
        same(x, text, sign, 1, kindOf(a[1]));
        same(x, text, sign + 2 + inside(b[0]), 2, due);
    }

    private static void unary(String op, String[] a) {
        String ahead = HEAD + "N.n = ";
        String text = ahead + op + " " + a[0] + ") ; } }";
        boolean fine = op.equals("!") ? a[2].equals("boolean") : number(a[2]);
        if (!fine) {
            House.place(42, ahead.length(), text);
            return;
        }
        FrontHouse x = House.taken(text);
        boolean counts = op.length() > 1;
        String p = op.equals("!") ? "boolean" : promoted(a[2], "int");
        same(x, text, ahead.length(), 1, kindOf(counts ? a[1] : p));
        same(x, text, ahead.length() + op.length() + 1 + inside(a[0]), 2, counts ? 0 : conversion(a, p));
    }

    private static boolean variable(String[] a) {
        return a[3].isEmpty() && !a[0].equals("null") && !a[0].equals("this");
    }

    public static void main(String[] args) {
        for (String[] a : OPERANDS) {
            for (String op : new String[] {"+", "-", "~", "!", "++", "--"}) {
                if (op.length() == 1 || variable(a)) {
                    unary(op, a);
                }
            }
            for (String[] b : OPERANDS) {
                for (String op : SIGNS) {
                    binary(op, a, b);
                    boolean behind = index(new String[] {"+", "-", "*", "/", "%", "<<", ">>", ">>>", "&", "|", "^"}, op) >= 0;
                    if (behind && variable(a)) {
                        compound(op, a, b);
                    }
                }
                if (variable(a)) {
                    assignment(a, b);
                }
            }
        }
        House.end("operators and assignments by the specification's rules");
    }
}
