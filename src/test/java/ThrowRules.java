import java.util.ArrayList;
import java.util.List;
import java.util.Random;

/**
 * The rules of [11.2] and [11.2.3], written down once more by their letter (with what the document tells of a
 * catch's own variable), on random bodies: the least place of a fault 63, 64 and its number.
 * Arguments: how many texts, and a number that they begin from.
 */
public final class ThrowRules {
    private static final String[] NAMES = {"Throwable", "Exception", "Error", "RuntimeException", "E", "F", "G", "R", "S", "P", "Q"};
    private static final int[] UP = {-1, 0, 0, 1, 1, 4, 1, 3, 0, 4, 1};
    private static final int CLASSES = 9;
    private static final int NULL = 11;
    private static final String HEAD = "class E extends Exception { } class F extends E { } class G extends Exception { } "
        + "class R extends RuntimeException { } class S extends Throwable { } class Main<P extends E> { boolean b; ";

    private static boolean below(int t, int u) {
        for (int i = t; i >= 0; i = UP[i]) {
            if (i == u) {
                return true;
            }
        }
        return false;
    }

    private static boolean checked(int t) {
        return !below(t, 2) && !below(t, 3);
    }

    /** One exception that can be thrown, and where. */
    private static final class Thrown {
        final int type;
        final int place;

        Thrown(int type, int place) {
            this.type = type;
            this.place = place;
        }
    }

    private static final class Catch {
        int type;
        int place;
        boolean last;
        boolean assigned;
        String name;
        Try around;
        final List<Object> body = new ArrayList<>();
    }

    private static final class Try {
        final List<Object> block = new ArrayList<>();
        final List<Catch> catches = new ArrayList<>();
        final List<Object> behind = new ArrayList<>();
        final List<Thrown> can = new ArrayList<>();
        boolean stuck;
    }

    private static final class Again {
        Catch variable;
        int place;
    }

    /** Makes a text with its statements. */
    private static final class Maker {
        private final Random random;
        private final StringBuilder text = new StringBuilder(HEAD);
        private final List<int[]> methods = new ArrayList<>();
        private final List<Catch> open = new ArrayList<>();
        private final List<Integer> told = new ArrayList<>();
        private final List<Object> body = new ArrayList<>();
        private int left = 24;
        private int count;
        private int fault;
        private int place = Integer.MAX_VALUE;

        Maker(long seed) {
            random = new Random(seed);
            for (int m = 0; m < 4; m++) {
                int[] types = new int[random.nextInt(3)];
                text.append("void f").append(m).append("()");
                for (int i = 0; i < types.length; i++) {
                    types[i] = random.nextInt(10);
                    text.append(i == 0 ? " throws " : ", ").append(NAMES[types[i]]);
                }
                text.append(" { } ");
                methods.add(types);
            }
            text.append("<V extends Exception> void v() throws V { } <V extends E> void w() throws G, V { } <Q extends Exception> void m(P p, Q q)");
            int many = random.nextInt(4);
            for (int i = 0; i < many; i++) {
                told.add(random.nextInt(11));
                text.append(i == 0 ? " throws " : ", ").append(NAMES[told.get(i)]);
            }
            text.append(" ");
            block(body, 3);
            text.append("}");
        }

        private boolean chance(int percent) {
            return random.nextInt(100) < percent;
        }

        private void block(List<Object> list, int depth) {
            text.append("{ ");
            int many = random.nextInt(4);
            for (int i = 0; i < many; i++) {
                statement(list, depth);
            }
            text.append("} ");
        }

        private void statement(List<Object> list, int depth) {
            left--;
            int pick = left < 0 ? 0 : random.nextInt(10);
            if (pick < 3) {
                call(list);
            } else if (pick < 5 || depth == 0) {
                throwing(list);
            } else if (pick == 5 && !open.isEmpty()) {
                Catch c = open.get(random.nextInt(open.size()));
                if (!c.last) {
                    c.assigned = true;
                    text.append(c.name).append(" = null; ");
                }
            } else {
                trying(list, depth);
            }
        }

        private void call(List<Object> list) {
            int pick = random.nextInt(7);
            if (pick > 4) {
                int t = pick == 5 ? new int[] {1, 3, 4, 5, 6, 7, 9, 10}[random.nextInt(8)] : new int[] {4, 5, 9}[random.nextInt(3)];
                text.append("this.<").append(NAMES[t]).append(">");
                if (pick == 6) {
                    list.add(new Thrown(6, text.length()));
                }
                list.add(new Thrown(t, text.length()));
                text.append(pick == 5 ? "v(); " : "w(); ");
                return;
            }
            int m = random.nextInt(4);
            for (int t : methods.get(m)) {
                list.add(new Thrown(t, text.length()));
            }
            text.append("f").append(m).append("(); ");
        }

        private void throwing(List<Object> list) {
            text.append("if (b) ");
            int at = text.length();
            int pick = random.nextInt(10);
            if (pick < 5 && !open.isEmpty()) {
                Again a = new Again();
                a.variable = open.get(random.nextInt(open.size()));
                a.place = at;
                list.add(a);
                text.append("throw ").append(chance(15) ? "(" + a.variable.name + ")" : a.variable.name).append("; ");
                return;
            }
            int t = pick == 9 ? NULL : pick == 8 ? 9 + random.nextInt(2) : random.nextInt(CLASSES);
            text.append("throw ").append(t == NULL ? "null" : t == 9 ? "p" : t == 10 ? "q" : "new " + NAMES[t] + "()").append("; ");
            if (t != NULL) {
                list.add(new Thrown(t, at));
            }
        }

        private void trying(List<Object> list, int depth) {
            Try t = new Try();
            list.add(t);
            text.append("if (b) try ");
            block(t.block, depth - 1);
            int many = random.nextInt(4);
            for (int i = 0; i < many; i++) {
                Catch c = new Catch();
                c.around = t;
                c.name = "c" + count++;
                c.last = chance(20);
                text.append("catch (").append(c.last ? "final " : "");
                c.place = text.length();
                t.catches.add(c);
                for (int round = 0; round < 12; round++) {
                    c.type = random.nextInt(CLASSES);
                    int was = fault;
                    int at = place;
                    t.can.clear();
                    judge(t.block, t.can);
                    fault = 0;
                    place = Integer.MAX_VALUE;
                    judgeCatch(t, c);
                    boolean wrong = fault == 64;
                    fault = was;
                    place = at;
                    if (!wrong || chance(2)) {
                        break;
                    }
                }
                text.append(NAMES[c.type]).append(" ").append(c.name).append(") ");
                open.add(c);
                block(c.body, depth - 1);
                open.remove(c);
            }
            if (many == 0 || chance(25)) {
                t.stuck = chance(30);
                text.append("finally ");
                block(t.behind, depth - 1);
                if (t.stuck) {
                    text.setLength(text.length() - 2);
                    text.append(chance(50) ? "return; } " : chance(50) ? "throw new R(); } " : "for (;;) ; } ");
                }
            }
        }

        private void report(int what, int at) {
            if (at < place || (at == place && what < fault)) {
                fault = what;
                place = at;
            }
        }

        /** What a list of statements can throw [11.2.2]. */
        private void judge(List<Object> list, List<Thrown> out) {
            for (Object o : list) {
                if (o instanceof Thrown) {
                    out.add((Thrown) o);
                } else if (o instanceof Again) {
                    again((Again) o, out);
                } else {
                    judgeTry((Try) o, out);
                }
            }
        }

        private void again(Again a, List<Thrown> out) {
            Catch c = a.variable;
            if (c.assigned) {
                out.add(new Thrown(c.type, a.place));
                return;
            }
            for (Thrown e : c.around.can) {
                if (!takenAhead(c.around, c, e.type)) {
                    if (below(e.type, c.type)) {
                        out.add(new Thrown(e.type, a.place));
                    } else if (below(c.type, e.type)) {
                        out.add(new Thrown(c.type, a.place));
                    }
                }
            }
        }

        private boolean takenAhead(Try t, Catch c, int type) {
            for (Catch o : t.catches) {
                if (o == c) {
                    return false;
                }
                if (below(type, o.type)) {
                    return true;
                }
            }
            return false;
        }

        private void judgeTry(Try t, List<Thrown> out) {
            t.can.clear();
            judge(t.block, t.can);
            List<Thrown> past = new ArrayList<>();
            for (Thrown e : t.can) {
                if (!takenAhead(t, null, e.type)) {
                    past.add(e);
                }
            }
            for (Catch c : t.catches) {
                judgeCatch(t, c);
                judge(c.body, past);
            }
            if (!t.stuck) {
                out.addAll(past);
            }
            judge(t.behind, out);
        }

        private void judgeCatch(Try t, Catch c) {
            boolean can = !checked(c.type) || c.type == 1 || c.type == 0;
            for (Thrown e : t.can) {
                can = can || (checked(e.type) && (below(e.type, c.type) || below(c.type, e.type)));
            }
            if (!can || takenAhead(t, c, c.type)) {
                report(64, c.place);
            }
        }

        void judgeAll() {
            List<Thrown> out = new ArrayList<>();
            judge(body, out);
            for (Thrown e : out) {
                boolean fine = !checked(e.type);
                for (int t : told) {
                    fine = fine || below(e.type, t);
                }
                if (!fine) {
                    report(63, e.place);
                }
            }
        }
    }

    public static void main(String[] args) {
        int many = args.length > 0 ? Integer.parseInt(args[0]) : 3000;
        long from = args.length > 1 ? Long.parseLong(args[1]) : 1;
        int[] seen = new int[65];
        for (long seed = from; seed < from + many; seed++) {
            Maker maker = new Maker(seed);
            String text = maker.text.toString();
            maker.judgeAll();
            if (text.length() <= 3000) {
                House.place(maker.fault, maker.fault == 0 ? -1 : maker.place, text);
                seen[maker.fault]++;
            }
        }
        House.same("each fault is there", seen[0] > many / 20 && seen[63] > many / 20 && seen[64] > many / 50 ? 1 : 0, 1);
        House.end("what is thrown and caught, by the specification's rules (" + seen[0] + " taken, " + seen[63] + " of 63, " + seen[64] + " of 64)");
    }
}
