import java.util.ArrayList;
import java.util.List;

/**
 * Casts [5.5], instanceof [15.20.2] and == of things [15.21.3] by the specification's rules [4.5.1], [4.10], [5.1.6]
 * written down once more, for all pairs of types that stand here: faults and conversions.
 */
public final class CastRules {
    private static final String KINDS = "class N { static Object n; } class B { } class D extends B { } interface F { } interface E extends F { } final class Z { } "
        + "final class Y implements F { } class G<X> { } class H<X> extends G<X> { } class K extends G<Integer> { } interface J<X> { } "
        + "class M<X> implements J<B> { } class C<X> extends G<B> implements J<X> { } final class L implements J<D> { } "
        + "class A<T extends Integer, U extends B, V, S extends G<B>> { ";
    private static final String[] PRIMS = {"boolean", "byte", "short", "char", "int", "long"};
    private static final String[] BOXES = {"Boolean", "Byte", "Short", "Character", "Integer", "Long"};
    private static final String[] TYPES = {"boolean", "byte", "short", "char", "int", "long", "Boolean", "Byte", "Short", "Character", "Integer", "Long",
        "Object", "B", "D", "F", "E", "Z", "Y", "T", "U", "V", "S", "G<Integer>", "G<B>", "G<D>", "G<Z>", "G<U>", "G<V>", "G<T>", "G<G<B>>", "G<G<V>>",
        "H<Integer>", "H<B>", "H<V>", "K", "J<B>", "J<D>", "J<V>", "M<D>", "M<V>", "C<B>", "C<D>", "C<V>", "L", "int[]", "long[]", "Object[]", "B[]", "D[]", "F[]",
        "U[]", "V[]", "Integer[]", "G<B>[]", "H<B>[]", "C<B>[]", "int[][]", "Object[][]", "V[][]"};

    private static int index(String[] list, String s) {
        for (int i = 0; i < list.length; i++) {
            if (list[i].equals(s)) {
                return i;
            }
        }
        return -1;
    }

    private static boolean prim(String t) {
        return index(PRIMS, t) >= 0;
    }

    private static boolean row(String t) {
        return t.endsWith("[]");
    }

    private static String part(String t) {
        return t.substring(0, t.length() - 2);
    }

    private static String bound(String t) {
        int i = "TUVS".indexOf(t);
        return t.length() > 1 || i < 0 ? "" : new String[] {"Integer", "B", "Object", "G<B>"}[i];
    }

    private static boolean isVar(String t) {
        return !bound(t).isEmpty();
    }

    private static String name(String t) {
        return t.indexOf('<') < 0 ? t : t.substring(0, t.indexOf('<'));
    }

    private static String arg(String t) {
        return t.indexOf('<') < 0 ? "" : t.substring(t.indexOf('<') + 1, t.length() - 1);
    }

    /** What is right above a kind's type or a var. */
    private static String[] above(String t) {
        if (isVar(t)) {
            return new String[] {bound(t)};
        }
        switch (name(t)) {
            case "D": return new String[] {"B"};
            case "E":
            case "Y": return new String[] {"F"};
            case "H": return new String[] {"G<" + arg(t) + ">"};
            case "K": return new String[] {"G<Integer>"};
            case "M": return new String[] {"J<B>"};
            case "C": return new String[] {"G<B>", "J<" + arg(t) + ">"};
            case "L": return new String[] {"J<D>"};
            default: return new String[0];
        }
    }

    /** All kinds' types above, the type's own too. */
    private static List<String> all(String t) {
        List<String> list = new ArrayList<>();
        list.add(t);
        for (int i = 0; i < list.size(); i++) {
            for (String up : above(list.get(i))) {
                list.add(up);
            }
        }
        return list;
    }

    private static boolean below(String a, String b) {
        if (a.equals(b) || (b.equals("Object") && !prim(a))) {
            return true;
        }
        if (row(a) && row(b)) {
            return !prim(part(a)) && !prim(part(b)) && below(part(a), part(b));
        }
        return !row(a) && !row(b) && !prim(a) && all(a).contains(b);
    }

    private static String erased(String t) {
        String b = t;
        while (isVar(b)) {
            b = bound(b);
        }
        return name(b);
    }

    /** Of kinds without their type arguments. */
    private static boolean belowErased(String a, String b) {
        if (b.equals("Object")) {
            return true;
        }
        for (String up : all(a.equals("G") || a.equals("H") || a.equals("J") || a.equals("M") || a.equals("C") ? a + "<V>" : a)) {
            if (name(up).equals(b)) {
                return true;
            }
        }
        return false;
    }

    private static boolean face(String name) {
        return name.equals("F") || name.equals("E") || name.equals("J");
    }

    private static boolean last(String name) {
        return name.equals("Z") || name.equals("Y") || name.equals("L") || index(BOXES, name) >= 0;
    }

    private static boolean disjoint(String a, String b) {
        if (belowErased(a, b) || belowErased(b, a) || (face(a) && face(b))) {
            return false;
        }
        return face(a) || face(b) ? last(face(a) ? b : a) : true;
    }

    private static boolean distinct(String a, String b) {
        if (a.equals(b)) {
            return false;
        }
        if (!isVar(a) && !isVar(b)) {
            return true;
        }
        return !belowErased(erased(a), erased(b)) && !belowErased(erased(b), erased(a));
    }

    private static boolean narrows(String s, String t) {
        if (below(s, t)) {
            return false;
        }
        if (row(s) && row(t)) {
            return !prim(part(s)) && !prim(part(t)) && narrows(part(s), part(t));
        }
        if (!row(s) && !row(t)) {
            for (String x : all(s)) {
                for (String y : all(t)) {
                    if (!arg(x).isEmpty() && name(x).equals(name(y)) && distinct(arg(x), arg(y))) {
                        return false;
                    }
                }
            }
        }
        if (isVar(t) && (below(s, bound(t)) || narrows(s, bound(t)))) {
            return true;
        }
        if (isVar(s)) {
            return narrows(bound(s), t);
        }
        if (row(t)) {
            return s.equals("Object");
        }
        return !row(s) && !isVar(t) && !disjoint(name(s), name(t));
    }

    private static boolean reifiable(String t) {
        return row(t) ? reifiable(part(t)) : !isVar(t) && arg(t).isEmpty();
    }

    private static boolean unchecked(String s, String t) {
        if (row(t)) {
            return row(s) ? unchecked(part(s), part(t)) : !reifiable(t);
        }
        if (isVar(t)) {
            return true;
        }
        String from = s;
        while (isVar(from)) {
            from = bound(from);
        }
        // only what hands its own argument up is told by what it was: H<X> below G<X>, C<X> below J<X>
        boolean settled = below(t, from) && arg(from).equals(arg(t)) && (name(t).equals("H") || (name(t).equals("C") && name(from).equals("J")));
        return !arg(t).isEmpty() && !settled;
    }

    private static String unboxed(String t) {
        String b = t;
        while (isVar(b)) {
            b = bound(b);
        }
        return index(BOXES, b) >= 0 ? PRIMS[index(BOXES, b)] : "";
    }

    private static boolean widens(int a, int b) {
        return a > 0 && a != b && ((b > 3 && a < b) || (b == 2 && a == 1));
    }

    /** The conversion of a cast, -1 if it can't be. */
    private static int cast(String s, String t) {
        int a = index(PRIMS, s);
        int b = index(PRIMS, t);
        if (s.equals(t)) {
            return 0;
        }
        if (a >= 0 && b >= 0) {
            return a == 0 || b == 0 ? -1 : widens(a, b) ? 1 : a == 1 && b == 3 ? 11 : 2;
        }
        if (a >= 0) {
            return BOXES[a].equals(t) ? 3 : below(BOXES[a], t) ? 4 : -1;
        }
        if (b >= 0) {
            int p = index(PRIMS, unboxed(s));
            return p >= 0 ? (p == b ? 5 : widens(p, b) ? 6 : -1) : narrows(s, BOXES[b]) ? 12 : -1;
        }
        return below(s, t) ? 7 : !narrows(s, t) ? -1 : unchecked(s, t) ? 10 : 9;
    }

    private static void pair(String s, String t, String fields, int from) {
        String ahead = KINDS + fields + "void m() { N.n = ";
        int due = cast(s, t);
        String text = ahead + "(" + t + ") v" + from + "; } }";
        if (due < 0) {
            House.place(52, ahead.length(), text);
        } else {
            FrontHouse x = House.taken(text);
            House.same(text, x.expression(x.count(3) - 1, 2), due);
            House.same(text + "\n   UNCHECKED", x.count(5), due == 10 ? 1 : 0);
        }
        text = ahead + "v" + from + " instanceof " + t + "; } }";
        int sign = ahead.length() + ("v" + from).length() + 1;
        boolean can = !prim(s) && !prim(t) && reifiable(t) && due >= 0;
        House.place(can ? 0 : 52, can ? -1 : sign, text);
    }

    private static void alike(String s, String t, String fields, int from, int to) {
        String ahead = KINDS + fields + "void m() { N.n = v" + from;
        boolean can = cast(s, t) >= 0 || cast(t, s) >= 0;
        House.place(can ? 0 : 52, can ? -1 : ahead.length() + 1, ahead + " == v" + to + "; } }");
    }

    public static void main(String[] args) {
        for (int i = 0; i < TYPES.length; i++) {
            for (int j = 0; j < TYPES.length; j++) {
                String fields = TYPES[i] + " v" + i + "; " + (i == j ? "" : TYPES[j] + " v" + j + "; ");
                pair(TYPES[i], TYPES[j], fields, i);
                if (!prim(TYPES[i]) && !prim(TYPES[j])) {
                    alike(TYPES[i], TYPES[j], fields, i, j);
                }
            }
        }
        House.end("casts by the specification's rules");
    }
}
