/** Arithmetic at its edges: as constants, and as runs with the same numbers in locals; what is due is what Java itself makes of them. */
public final class NumberEdges {
    private static final String[] OPS = {"+", "-", "*", "/", "%", "<<", ">>", ">>>", "&", "|", "^", "<", "<=", ">", ">=", "==", "!="};
    private static final int[] INTS = {0, 1, -1, 2, 31, 32, 33, -31, -32, 127, 128, -128, -129, 32767, 32768, 65535, 65536, Integer.MAX_VALUE, Integer.MIN_VALUE, Integer.MIN_VALUE + 1};
    private static final long[] LONGS = {0, 1, -1, 63, 64, 65, -64, 2147483647L, 2147483648L, -2147483649L, 4294967295L, 4294967296L, Long.MAX_VALUE, Long.MIN_VALUE, Long.MIN_VALUE + 1};

    private static long of(boolean b) {
        return b ? 1 : 0;
    }

    private static long made(int op, int a, int b) {
        switch (op) {
            case 0: return a + b;
            case 1: return a - b;
            case 2: return a * b;
            case 3: return a / b;
            case 4: return a % b;
            case 5: return a << b;
            case 6: return a >> b;
            case 7: return a >>> b;
            case 8: return a & b;
            case 9: return a | b;
            case 10: return a ^ b;
            default: return compared(op, a, b);
        }
    }

    private static long made(int op, long a, long b) {
        switch (op) {
            case 0: return a + b;
            case 1: return a - b;
            case 2: return a * b;
            case 3: return a / b;
            case 4: return a % b;
            case 5: return a << b;
            case 6: return a >> b;
            case 7: return a >>> b;
            case 8: return a & b;
            case 9: return a | b;
            case 10: return a ^ b;
            default: return compared(op, a, b);
        }
    }

    private static long compared(int op, long a, long b) {
        switch (op) {
            case 11: return of(a < b);
            case 12: return of(a <= b);
            case 13: return of(a > b);
            case 14: return of(a >= b);
            case 15: return of(a == b);
            default: return of(a != b);
        }
    }

    private static String literal(long v, boolean wide) {
        return "(" + v + (wide ? "L" : "") + ")";
    }

    private static long due(int op, long a, long b, boolean wideA, boolean wideB) {
        boolean shift = op >= 5 && op <= 7;
        if (shift && !wideA) {
            return op == 5 ? (int) a << b : op == 6 ? (int) a >> b : (int) a >>> b;
        }
        return wideA || wideB ? made(op, a, b) : made(op, (int) a, (int) b);
    }

    /** All signs between two numbers: as constants, and as locals that run. */
    private static void pair(long a, long b, boolean wideA, boolean wideB) {
        StringBuilder still = new StringBuilder("class Main { static void main() { ");
        String typeA = wideA ? "long" : "int";
        String typeB = wideB ? "long" : "int";
        StringBuilder runs = new StringBuilder("class Main { static void main() { " + typeA + " a = " + literal(a, wideA) + "; " + typeB + " b = " + literal(b, wideB) + "; ");
        long[] want = new long[OPS.length];
        int many = 0;
        for (int op = 0; op < OPS.length; op++) {
            if (b != 0 || (op != 3 && op != 4)) {
                still.append("Out.put(" + literal(a, wideA) + " " + OPS[op] + " " + literal(b, wideB) + "); ");
                runs.append("Out.put(a " + OPS[op] + " b); ");
                want[many] = due(op, a, b, wideA, wideB);
                many++;
            }
        }
        String name = literal(a, wideA) + " with " + literal(b, wideB);
        puts(name, still + "} }", want, many, true);
        puts(name, runs + "} }", want, many, false);
    }

    private static void puts(String name, String text, long[] want, int many, boolean still) {
        FrontHouse x = House.taken(text);
        House.same("run of " + name, x.run(1000, 1000), 0);
        House.same("entries of " + name, x.about(4), many);
        for (int i = 0; i < many; i++) {
            House.same("entry " + i + " of " + name, x.out(i, 1), want[i]);
        }
        int seen = 0;
        for (int i = 0; i < x.count(4); i++) {
            if (x.call(i, 1) < 0 && still) {
                int place = text.indexOf(" ", text.indexOf(") ", x.call(i, 0))) + 1;
                for (int e = 0; e < x.count(3); e++) {
                    if (x.expression(e, 0) == place) {
                        House.same("a constant in " + name, x.expression(e, 3), 1);
                        House.same("constant " + seen + " of " + name, x.constant(e), want[seen]);
                    }
                }
                seen++;
            }
        }
    }

    /** "a divisor" that is 0 is no constant [15.29], and throws. */
    private static void byZero() {
        String[] zero = {"1 / 0", "1 % 0", "1L / 0", "1 / 0L", "1L % 0L", "'a' / (1 - 1)"};
        for (String z : zero) {
            FrontHouse x = House.taken("class Main { static void main() { Out.put(" + z + "); } }");
            int first = x.count(3) - (z.startsWith("'") ? 5 : 3);
            House.same("no constant: " + z, x.expression(first + 1, 3), 0);
            House.same("no constant: " + z, x.constant(first + 1), 0);
            House.same("run of " + z, x.run(100, 100), 1);
            House.same("thrown by " + z, x.about(1), -6);
        }
    }

    /** What casts and ++, --, += leave of a number that is too great. */
    private static void narrow() {
        String[] types = {"byte", "short", "char", "int", "long"};
        for (long v : LONGS) {
            for (int t = 0; t < 5; t++) {
                long want = t == 0 ? (byte) v : t == 1 ? (short) v : t == 2 ? (char) v : t == 3 ? (int) v : v;
                FrontHouse x = House.taken("class Main { static void main() { long v = " + literal(v, true) + "; " + types[t] + " w = (" + types[t] + ") v; Out.put(w); Out.put((" + types[t] + ") " + literal(v, true) + "); w = 0; w += v; Out.put(w); } }");
                House.same("run", x.run(100, 100), 0);
                for (int i = 0; i < 3; i++) {
                    House.same("(" + types[t] + ") " + v, x.out(i, 1), want);
                }
            }
        }
        String[] most = {"127", "32767", "65535", "2147483647", "9223372036854775807L"};
        String[] least = {"-128", "-32768", "0", "-2147483648", "-9223372036854775808L"};
        String[] boxes = {"Byte", "Short", "Character", "Integer", "Long"};
        for (int t = 0; t < 5; t++) {
            String body = " w = " + most[t] + "; w++; Out.put((" + types[t] + ") w); w--; Out.put((" + types[t] + ") w); Out.put((" + types[t] + ") w++); Out.put((" + types[t] + ") --w); Out.put((" + types[t] + ") ++w); Out.put((" + types[t] + ") w--); ";
            String[] order = {least[t], most[t], most[t], most[t], least[t], least[t]};
            for (int box = 0; box < 2; box++) {
                FrontHouse x = House.taken("class Main { static void main() { " + (box == 0 ? types[t] : boxes[t]) + body + "} }");
                House.same("run", x.run(100, 100), 0);
                for (int i = 0; i < order.length; i++) {
                    House.same(types[t] + " entry " + i, x.out(i, 1), Long.parseLong(order[i].replace("L", "")));
                }
            }
        }
        FrontHouse x = House.taken("class Main { static void main() { Out.put(-(-2147483648)); Out.put(-(-9223372036854775808L)); Out.put(~2147483647); Out.put(+'a'); Out.put(-'a'); int i = -2147483648; Out.put(-i); Out.put(~i); long l = -9223372036854775808L; Out.put(-l); } }");
        House.same("run", x.run(100, 100), 0);
        long[] want = {Integer.MIN_VALUE, Long.MIN_VALUE, Integer.MIN_VALUE, 97, -97, Integer.MIN_VALUE, Integer.MAX_VALUE, Long.MIN_VALUE};
        for (int i = 0; i < want.length; i++) {
            House.same("entry " + i, x.out(i, 1), want[i]);
        }
    }

    /** Constants are [15.29]: what is one, and what just isn't. */
    private static void constants() {
        String head = "class A { static final int K = 5; final int L = 6; static final Integer B = 7; static int V = 8; final boolean Z = true; static final int W = f(); static int f() { return 1; } static final long M = K; ";
        String[] yes = {"1", "'a'", "true", "K", "L", "A.K", "(1)", "(byte) 300", "-1", "~K", "!Z", "K + L", "1 < 2", "Z && false", "Z ? 1 : 2", "1 == 1", "(long) K << 3", "M", "Z | false", "'a' + 1"};
        String[] no = {"null", "V", "B", "W", "this.L", "f()", "(Integer) 1", "(Object) 1", "V++ + 1", "1 / 0", "1 % 0", "Z ? V : 1", "V = 1", "new A().L", "new int[1].length", "this.K", "Z && V > 1", "null == null", "1 + B"};
        for (String e : yes) {
            last(head + "Object x = " + e + "; }", e, 1);
        }
        for (String e : no) {
            last(head + "Object x = " + e + "; }", e, 0);
        }
        FrontHouse x = House.taken("class A { static final int X = 1; static final int C = D.E; } class D { static final int E = A.X + 1, F = g(); static int g() { return 1; } }");
        House.same("constants", x.count(6), 6);
        x = House.taken("class A { final int a = b() , c = 1; int b() { return c; } final byte d = 10; final char e = (char) d; final long f = 'a'; final boolean g = f > d; }");
        House.same("constants", x.count(6), 9);
    }

    /** Whether the whole initial value of the last field is told as a constant. */
    private static void last(String text, String e, int want) {
        FrontHouse x = House.taken(text);
        int from = text.lastIndexOf(e);
        int all = 1;
        int some = 0;
        for (int i = 0; i < x.count(3); i++) {
            if (x.expression(i, 0) >= from) {
                all &= x.expression(i, 3);
                some++;
            }
        }
        House.same("there is an expression in " + e, some > 0 ? 1 : 0, 1);
        House.same("a constant: " + e, all, want);
    }

    public static void main(String[] args) {
        for (int a : INTS) {
            for (int b : INTS) {
                pair(a, b, false, false);
            }
        }
        for (long a : LONGS) {
            for (long b : LONGS) {
                pair(a, b, true, true);
            }
            for (int b : INTS) {
                pair(a, b, true, false);
                pair(b, a, false, true);
            }
        }
        byZero();
        narrow();
        constants();
        House.end("numbers");
    }
}
