import java.util.ArrayList;
import java.util.List;
import java.util.Random;

/**
 * The rules of [14.22] and [16], written down once more by their letter (with what the document tells of catch,
 * finally and jumps), on random bodies: the least place of a fault 60, 61, 62 and its number. This JDK's compiler
 * is no help there: it forgets what is assigned ahead of a finally that doesn't end [16.2.15].
 * Arguments: how many texts, and a number that they begin from.
 */
public final class FlowRules {
    private static final long ALL = -1L;
    private static final String HEAD = "class M { static int q; static boolean c() { return q > 0; } static int i() { return q++; } } class Main { ";

    /** A statement or an expression, with its places in the text. */
    private static final class Part {
        final String kind;
        final String name;
        final List<Part> parts = new ArrayList<>();
        int first;
        int place;
        int variable;
        boolean left;
        boolean again;

        Part(String kind, String name, int first) {
            this.kind = kind;
            this.name = name;
            this.first = first;
            this.place = first;
        }

        boolean is(String... kinds) {
            for (String k : kinds) {
                if (kind.equals(k)) {
                    return true;
                }
            }
            return false;
        }

        Part part(int i) {
            return parts.get(i);
        }

        boolean loops() {
            return is("while", "do", "for", "each");
        }
    }

    /** Makes a text and the parts that it has. */
    private static final class Maker {
        private final Random random;
        private final StringBuilder text = new StringBuilder(HEAD);
        private final List<String> seen = new ArrayList<>();
        private final List<Part> labels = new ArrayList<>();
        private final List<String> names = new ArrayList<>();
        private final List<Boolean> lasting = new ArrayList<>();
        private final boolean builds;
        private final int spell;
        private int loops;
        private int switches;
        private int left;
        private int labelCount;

        Maker(long seed) {
            random = new Random(seed);
            builds = chance(30);
            text.append(builds ? "final int F; " : "");
            spell = text.length();
            text.append(builds ? "Main(int a) { " : "static void m(int a) { ");
            know("a", false);
            if (builds) {
                know("F", true);
            }
            left = 5 + random.nextInt(22);
        }

        private boolean chance(int percent) {
            return random.nextInt(100) < percent;
        }

        private void know(String name, boolean fixed) {
            names.add(name);
            lasting.add(fixed);
            seen.add(name);
        }

        private int put(String s) {
            int at = text.length();
            text.append(s).append(' ');
            return at;
        }

        private String variable() {
            return seen.get(random.nextInt(seen.size()));
        }

        private Part make(String kind, String name) {
            return new Part(kind, name, text.length());
        }

        private Part assigned(Part p, String sign, int level) {
            p.variable = put(p.name);
            p.place = put(sign);
            p.parts.add(number(level));
            return p;
        }

        Part number(int level) {
            switch (random.nextInt(level > 2 ? 4 : 9)) {
                case 0: return simple("plain", "1");
                case 1:
                case 2: {
                    Part p = make("read", variable());
                    put(p.name);
                    return p;
                }
                case 4: return inBrackets("assign", level);
                case 5: return inBrackets(chance(50) ? "add" : "count", level);
                case 6: return chosen("number", level);
                case 7: return pair("both", "+", level);
                default: return simple("plain", "M.i()");
            }
        }

        private Part simple(String kind, String s) {
            Part p = make(kind, s);
            put(s);
            return p;
        }

        private Part inBrackets(String kind, int level) {
            Part p = make(kind, variable());
            put("(");
            if (kind.equals("count")) {
                p.variable = put(p.name);
                p.place = put("++");
            } else {
                assigned(p, kind.equals("assign") ? "=" : "+=", level + 1);
            }
            put(")");
            return p;
        }

        private Part chosen(String name, int level) {
            Part p = make("choose", name);
            put("(");
            p.parts.add(condition(level + 1));
            put("?");
            p.parts.add(name.equals("number") ? number(level + 1) : condition(level + 1));
            put(":");
            p.parts.add(name.equals("number") ? number(level + 1) : condition(level + 1));
            put(")");
            return p;
        }

        private Part pair(String kind, String sign, int level) {
            Part p = make(kind, "");
            boolean asks = kind.equals("and") || kind.equals("or");
            put("(");
            p.parts.add(asks ? condition(level + 1) : number(level + 1));
            put(sign);
            p.parts.add(asks ? condition(level + 1) : number(level + 1));
            put(")");
            return p;
        }

        Part condition(int level) {
            switch (random.nextInt(level > 2 ? 4 : 9)) {
                case 0: return simple("known", chance(50) ? "true" : "false");
                case 1: return pair("greater", ">", level);
                case 4: return pair("and", "&&", level);
                case 5: return pair("or", "||", level);
                case 6: {
                    Part p = make("not", "");
                    put("!(");
                    p.parts.add(condition(level + 1));
                    put(")");
                    return p;
                }
                case 7: return chosen("condition", level);
                default: return simple("plain", "M.c()");
            }
        }

        private Part asked() {
            put("(");
            Part p = chance(45) ? simple("plain", "M.c()") : condition(0);
            put(")");
            return p;
        }

        Part statement(boolean listed, int depth) {
            left--;
            switch (random.nextInt(depth > 5 || left < 0 ? 8 : 21)) {
                case 0:
                case 1:
                case 2: return end(assigned(make("assign", variable()), "=", 2));
                case 3: return local(listed);
                case 4: return jump();
                case 5: return simple("return", "return;");
                case 6: return chance(40) ? simple("throw", "throw null;") : simple("empty", ";");
                case 8:
                case 9: return choice(depth);
                case 10:
                case 11:
                case 12: return loop(depth);
                case 13:
                case 14:
                case 15:
                case 16: return guarded(depth);
                case 17: return cases(depth);
                case 18: return block(depth, 4);
                case 19: return labelled(depth);
                default: {
                    Part p = make("read", variable());
                    put("M.q =");
                    p.place = put(p.name);
                    return end(p);
                }
            }
        }

        private Part end(Part p) {
            put(";");
            return p;
        }

        private Part local(boolean listed) {
            if (!listed || names.size() > 30) {
                return simple("empty", ";");
            }
            boolean value = chance(20);
            boolean fixed = chance(65) && !value;
            Part p = make("local", "v" + names.size());
            put((fixed ? "final int " : "int ") + p.name);
            if (value) {
                put("=");
                p.parts.add(number(1));
            }
            know(p.name, fixed);
            return end(p);
        }

        private Part jump() {
            Part goal = labels.isEmpty() || chance(40) ? null : labels.get(random.nextInt(labels.size()));
            boolean on = goal != null ? goal.again && chance(50) : loops > 0 && chance(50);
            if (goal == null && loops + switches == 0) {
                return simple("return", "return;");
            }
            Part p = make(on ? "continue" : "break", goal == null ? "" : goal.name);
            put(p.kind + (goal == null ? "" : " " + goal.name) + ";");
            return p;
        }

        private Part part(int depth) {
            return chance(70) ? block(depth, 3) : statement(false, depth + 1);
        }

        private Part block(int depth, int most) {
            int known = seen.size();
            Part p = make("block", "");
            put("{");
            for (int i = random.nextInt(most + 1); i > 0; i--) {
                p.parts.add(statement(true, depth + 1));
            }
            put("}");
            seen.subList(known, seen.size()).clear();
            return p;
        }

        private Part choice(int depth) {
            Part p = make("if", "");
            boolean other = chance(50);
            put("if");
            p.parts.add(asked());
            p.parts.add(other ? block(depth, 3) : part(depth));
            if (other) {
                put("else");
                p.parts.add(part(depth));
            }
            return p;
        }

        private Part labelled(int depth) {
            labelCount++;
            Part p = make("label", "L" + labelCount);
            put(p.name + ":");
            labels.add(p);
            p.again = chance(60);
            p.parts.add(p.again ? loop(depth) : part(depth));
            labels.remove(p);
            return p;
        }

        private Part loop(int depth) {
            int before = switches;
            switches = 0;
            loops++;
            Part p = make(new String[] {"while", "do", "for", "each"}[random.nextInt(4)], "");
            if (p.is("while")) {
                put("while");
                p.parts.add(asked());
                p.parts.add(part(depth));
            } else if (p.is("do")) {
                put("do");
                Part body = part(depth);
                put("while");
                p.parts.add(asked());
                p.parts.add(body);
                put(";");
            } else if (p.is("for")) {
                put("for (;");
                p.parts.add(chance(70) ? condition(0) : new Part("known", "true", 0));
                put(";");
                Part next = chance(40) ? assigned(make("assign", variable()), "=", 2) : new Part("plain", "", 0);
                put(")");
                p.parts.add(part(depth));
                p.parts.add(next);
            } else {
                p = each(depth);
            }
            loops--;
            switches = before;
            return p;
        }

        private Part each(int depth) {
            Part p = make("each", "v" + names.size());
            put("for (int " + p.name + " : new int[");
            p.parts.add(number(2));
            put("])");
            know(p.name, false);
            p.parts.add(part(depth));
            seen.remove(p.name);
            return p;
        }

        /** Its parts are the block, the catches, and the finally (an empty part if there is none). */
        private Part guarded(int depth) {
            Part p = make("try", "");
            put("try");
            p.parts.add(block(depth, 4));
            int catches = random.nextInt(3);
            for (int i = 0; i < catches; i++) {
                labelCount++;
                put("catch (" + (i == 0 ? "Error" : "Exception") + " e" + labelCount + ")");
                p.parts.add(block(depth, 3));
            }
            if (catches == 0 || chance(60)) {
                put("finally");
                p.parts.add(block(depth, 3));
            } else {
                p.parts.add(new Part("none", "", 0));
            }
            return p;
        }

        private Part cases(int depth) {
            int known = seen.size();
            int other = random.nextInt(6);
            Part p = make("switch", "");
            switches++;
            put("switch (");
            p.parts.add(number(2));
            put(") {");
            for (int i = random.nextInt(4); i > 0; i--) {
                put(i == other ? "default:" : "case " + i + ":");
                p.parts.add(new Part(i == other ? "default" : "case", "", 0));
                for (int j = random.nextInt(3); j > 0; j--) {
                    p.parts.add(statement(true, depth + 1));
                }
                if (chance(40)) {
                    p.parts.add(make("break", ""));
                    put("break;");
                }
            }
            put("}");
            switches--;
            seen.subList(known, seen.size()).clear();
            return p;
        }

        List<Part> body() {
            List<Part> list = new ArrayList<>();
            for (int i = 1 + random.nextInt(4); i > 0; i--) {
                list.add(local(true));
            }
            for (int i = 1 + random.nextInt(6); i > 0; i--) {
                list.add(statement(true, 0));
            }
            text.append("} }");
            return list;
        }
    }

    /** A statement that a jump may leave, and what is so at the jumps to its end and to its next round. */
    private static final class Goal {
        final Part part;
        final String label;
        final int finals;
        long[] end = {ALL, ALL};
        long[] next = {ALL, ALL};

        Goal(Part part, String label, int finals) {
            this.part = part;
            this.label = label;
            this.finals = finals;
        }
    }

    private final List<String> names;
    private final List<Boolean> lasting;
    private final List<Goal> goals = new ArrayList<>();
    private final List<long[]> finals = new ArrayList<>();
    private long returned = ALL;
    private boolean quiet;
    private int fault;
    private int place = -1;

    private FlowRules(Maker maker) {
        names = maker.names;
        lasting = maker.lasting;
    }

    private void report(int number, int at) {
        if (!quiet && (fault == 0 || at < place || (at == place && number < fault))) {
            fault = number;
            place = at;
        }
    }

    // ---- [14.22]

    private static Boolean known(Part p) {
        switch (p.kind) {
            case "known": return p.name.equals("true");
            case "not": return known(p.part(0)) == null ? null : (Boolean) !known(p.part(0));
            case "and":
            case "or": {
                Boolean a = known(p.part(0));
                Boolean b = known(p.part(1));
                return a == null || b == null ? null : (Boolean) (p.is("and") ? a && b : a || b);
            }
            case "greater": {
                Integer a = number(p.part(0));
                Integer b = number(p.part(1));
                return a == null || b == null ? null : (Boolean) (a > b);
            }
            case "choose": {
                Boolean a = known(p.part(0));
                Boolean b = p.name.equals("number") ? null : known(p.part(1));
                Boolean c = p.name.equals("number") ? null : known(p.part(2));
                return a == null || b == null || c == null ? null : a ? b : c;
            }
            default: return null;
        }
    }

    private static Integer number(Part p) {
        switch (p.kind) {
            case "plain": return p.name.equals("1") ? (Integer) 1 : null;
            case "both": {
                Integer a = number(p.part(0));
                Integer b = number(p.part(1));
                return a == null || b == null ? null : (Integer) (a + b);
            }
            case "choose": {
                Boolean a = known(p.part(0));
                Integer b = p.name.equals("number") ? number(p.part(1)) : null;
                Integer c = p.name.equals("number") ? number(p.part(2)) : null;
                return a == null || b == null || c == null ? null : a ? b : c;
            }
            default: return null;
        }
    }

    /** What a jump goes through: statements around it, and Boolean for a finally, whether its end can be reached. */
    private boolean reached(Part p, List<Object> around) {
        switch (p.kind) {
            case "return":
            case "throw": return false;
            case "break":
            case "continue":
                leave(p, around);
                return false;
            case "block": return reachedList(p.parts, around);
            case "if": {
                boolean yes = reached(p.part(1), around);
                boolean no = p.parts.size() < 3 || reached(p.part(2), around);
                return yes || no;
            }
            case "label": {
                boolean end = reached(p.part(0), with(around, p));
                return end || p.left;
            }
            case "while":
            case "for":
                if (known(p.part(0)) == Boolean.FALSE) {
                    report(60, p.part(1).first);
                } else {
                    reached(p.part(1), with(around, p));
                }
                return known(p.part(0)) != Boolean.TRUE || p.left;
            case "each":
                reached(p.part(1), with(around, p));
                return true;
            case "do": {
                boolean end = reached(p.part(1), with(around, p));
                return ((end || p.again) && known(p.part(0)) != Boolean.TRUE) || p.left;
            }
            case "switch": return reachedCases(p, around);
            case "try": return reachedTry(p, around);
            default: return true;
        }
    }

    private static List<Object> with(List<Object> around, Object more) {
        List<Object> all = new ArrayList<>(around);
        all.add(more);
        return all;
    }

    private boolean reachedList(List<Part> list, List<Object> around) {
        boolean alive = true;
        for (Part s : list) {
            if (s.is("case", "default")) {
                alive = true;
            } else if (alive) {
                alive = reached(s, around);
            } else {
                report(60, s.first);
            }
        }
        return alive;
    }

    private boolean reachedCases(Part p, List<Object> around) {
        boolean whole = false;
        for (Part s : p.parts) {
            whole = whole || s.is("default");
        }
        boolean end = reachedList(p.parts.subList(1, p.parts.size()), with(around, p));
        return end || !whole || p.left;
    }

    private boolean reachedTry(Part p, List<Object> around) {
        Part last = p.part(p.parts.size() - 1);
        boolean fine = last.is("none") || reached(last, around);
        boolean end = false;
        for (Part b : p.parts.subList(0, p.parts.size() - 1)) {
            boolean more = reached(b, with(around, fine));
            end = end || more;
        }
        return end && fine;
    }

    private void leave(Part jump, List<Object> around) {
        for (int i = around.size() - 1; i >= 0; i--) {
            if (around.get(i) == Boolean.FALSE) {
                return;
            }
            if (around.get(i) instanceof Part) {
                Part p = (Part) around.get(i);
                boolean labelled = i > 0 && around.get(i - 1) instanceof Part && ((Part) around.get(i - 1)).is("label");
                String label = labelled ? ((Part) around.get(i - 1)).name : "";
                if (isGoal(jump, p, label)) {
                    p.left = p.left || jump.is("break");
                    p.again = p.again || jump.is("continue");
                    return;
                }
            }
        }
    }

    /** Whether a jump goes to a statement; label is what stands right ahead of it. */
    private static boolean isGoal(Part jump, Part p, String label) {
        if (jump.name.isEmpty()) {
            return p.loops() || (p.is("switch") && jump.is("break"));
        }
        return jump.is("break") ? p.is("label") && p.name.equals(jump.name) : p.loops() && label.equals(jump.name);
    }

    // ---- [16]: a state is what is assigned and what is unassigned

    private long bit(Part p) {
        return 1L << names.indexOf(p.name);
    }

    private static long[] both(long[] a, long[] b) {
        return new long[] {a[0] & b[0], a[1] & b[1]};
    }

    private void read(Part p, int at, long[] s) {
        if ((s[0] & bit(p)) == 0) {
            report(61, at);
        }
    }

    private long[] assign(Part p, long[] s) {
        if (lasting.get(names.indexOf(p.name)) && (s[1] & bit(p)) == 0) {
            report(62, p.place);
        }
        return new long[] {s[0] | bit(p), s[1] & ~bit(p)};
    }

    private long[] value(Part p, long[] s) {
        switch (p.kind) {
            case "read":
                read(p, p.place, s);
                return s;
            case "assign": return assign(p, value(p.part(0), s));
            case "add":
                read(p, p.variable, s);
                return assign(p, value(p.part(0), s));
            case "count":
                read(p, p.variable, s);
                return assign(p, s);
            case "both":
            case "greater": return value(p.part(1), value(p.part(0), s));
            case "choose": {
                if (p.name.equals("number")) {
                    long[][] c = asked(p.part(0), s);
                    long[] yes = value(p.part(1), c[0]);
                    return both(yes, value(p.part(2), c[1]));
                }
                break;
            }
            case "and":
            case "or":
            case "not": break;
            default: return s;
        }
        long[][] c = asked(p, s);
        return known(p) != null ? s : both(c[0], c[1]);
    }

    /** What is so when a condition is true, and when it is false. */
    private long[][] asked(Part p, long[] s) {
        long[][] made = askedParts(p, s);
        long[] all = {ALL, ALL};
        Boolean k = known(p);
        return k == null ? made : k ? new long[][] {s, all} : new long[][] {all, s};
    }

    private long[][] askedParts(Part p, long[] s) {
        switch (p.kind) {
            case "and": {
                long[][] a = asked(p.part(0), s);
                long[][] b = asked(p.part(1), a[0]);
                return new long[][] {b[0], both(a[1], b[1])};
            }
            case "or": {
                long[][] a = asked(p.part(0), s);
                long[][] b = asked(p.part(1), a[1]);
                return new long[][] {both(a[0], b[0]), b[1]};
            }
            case "not": {
                long[][] a = asked(p.part(0), s);
                return new long[][] {a[1], a[0]};
            }
            case "choose": {
                long[][] a = asked(p.part(0), s);
                long[][] b = asked(p.part(1), a[0]);
                long[][] c = asked(p.part(2), a[1]);
                return new long[][] {both(b[0], c[0]), both(b[1], c[1])};
            }
            default: {
                long[] made = value(p, s);
                return new long[][] {made, made};
            }
        }
    }

    private long[] list(List<Part> parts, long[] from) {
        long[] s = from;
        for (Part p : parts) {
            s = statement(p, s, "");
        }
        return s;
    }

    private long[] statement(Part p, long[] s, String label) {
        switch (p.kind) {
            case "local": {
                long[] bare = {s[0] & ~bit(p), s[1] | bit(p)};
                return p.parts.isEmpty() ? bare : given(p, value(p.part(0), bare));
            }
            case "return":
                returned &= through(s, 0)[0];
                return new long[] {ALL, ALL};
            case "throw": return new long[] {ALL, ALL};
            case "break":
            case "continue":
                jump(p, s);
                return new long[] {ALL, ALL};
            case "block": return list(p.parts, s);
            case "if": {
                long[][] c = asked(p.part(0), s);
                long[] yes = statement(p.part(1), c[0], "");
                return both(yes, p.parts.size() < 3 ? c[1] : statement(p.part(2), c[1], ""));
            }
            case "label": {
                Goal goal = enter(p, "");
                long[] end = statement(p.part(0), s, p.name);
                goals.remove(goal);
                return both(end, goal.end);
            }
            case "while":
            case "do":
            case "for":
            case "each": return loop(p, s, label);
            case "switch": return cases(p, s);
            case "try": return guarded(p, s);
            default: return value(p, s);
        }
    }

    private long[] given(Part p, long[] s) {
        return new long[] {s[0] | bit(p), s[1] & ~bit(p)};
    }

    private Goal enter(Part p, String label) {
        Goal goal = new Goal(p, label, finals.size());
        goals.add(goal);
        return goal;
    }

    /** "has assigned, too, what is behind that, and unassigned just what is so in front of it and behind that". */
    private long[] through(long[] s, int from) {
        long[] made = s.clone();
        for (long[] f : finals.subList(from, finals.size())) {
            made[0] |= f[0];
            made[1] &= f[1];
        }
        return made;
    }

    private void jump(Part p, long[] s) {
        for (int i = goals.size() - 1; i >= 0; i--) {
            Goal g = goals.get(i);
            if (isGoal(p, g.part, g.label)) {
                long[] there = through(s, g.finals);
                g.end = p.is("break") ? both(g.end, there) : g.end;
                g.next = p.is("continue") ? both(g.next, there) : g.next;
                return;
            }
        }
    }

    /** Ahead of the first round only what is so behind a round is unassigned; that is found without telling faults. */
    private long[] loop(Part p, long[] from, String label) {
        long[] s = p.is("each") ? value(p.part(0), from) : from;
        boolean before = quiet;
        long keptReturned = returned;
        List<long[][]> kept = new ArrayList<>();
        for (Goal g : goals) {
            kept.add(new long[][] {g.end, g.next});
        }
        quiet = true;
        long open = round(p, s, label)[1][1];
        quiet = before;
        returned = keptReturned;
        for (int i = 0; i < goals.size(); i++) {
            goals.get(i).end = kept.get(i)[0];
            goals.get(i).next = kept.get(i)[1];
        }
        return round(p, new long[] {s[0], s[1] & open}, label)[0];
    }

    /** What is so behind the loop, and behind one round of it. */
    private long[][] round(Part p, long[] s, String label) {
        Goal goal = enter(p, label);
        long[] out = s;
        long[] back = s;
        if (p.is("do")) {
            long[] end = statement(p.part(1), s, "");
            long[][] c = asked(p.part(0), both(end, goal.next));
            back = c[0];
            out = c[1];
        } else if (p.is("each")) {
            back = both(statement(p.part(1), given(p, s), ""), goal.next);
            back[1] |= bit(p);
        } else {
            long[][] c = asked(p.part(0), s);
            out = c[1];
            back = both(statement(p.part(1), c[0], ""), goal.next);
            back = p.is("for") ? value(p.part(2), back) : back;
        }
        goals.remove(goal);
        return new long[][] {both(out, goal.end), back};
    }

    private long[] cases(Part p, long[] from) {
        long[] s = value(p.part(0), from);
        long own = 0;
        boolean whole = false;
        for (Part c : p.parts) {
            own |= c.is("local") ? bit(c) : 0;
            whole = whole || c.is("default");
        }
        long[] ahead = {s[0] & ~own, s[1] | own};
        Goal goal = enter(p, "");
        long[] now = p.parts.size() > 1 ? new long[] {ALL, ALL} : s;
        for (Part c : p.parts.subList(1, p.parts.size())) {
            now = c.is("case", "default") ? both(now, ahead) : statement(c, now, "");
        }
        goals.remove(goal);
        return both(whole ? now : both(now, ahead), goal.end);
    }

    private long touched(Part p) {
        long all = p.is("assign", "add", "count") ? bit(p) : 0;
        for (Part q : p.parts) {
            all |= touched(q);
        }
        return all;
    }

    private long[] guarded(Part p, long[] s) {
        Part last = p.part(p.parts.size() - 1);
        List<Part> blocks = p.parts.subList(0, p.parts.size() - 1);
        long all = 0;
        for (Part b : blocks) {
            all |= touched(b);
        }
        if (!last.is("none")) {
            finals.add(statement(last, new long[] {s[0], s[1] & ~all}, ""));
        }
        long[] end = statement(p.part(0), s, "");
        for (Part b : blocks.subList(1, blocks.size())) {
            end = both(end, statement(b, new long[] {s[0], s[1] & ~touched(p.part(0))}, ""));
        }
        if (!last.is("none")) {
            long[] f = finals.remove(finals.size() - 1);
            end = new long[] {end[0] | f[0], end[1] & f[1]};
        }
        return end;
    }

    private void judge(Maker maker, List<Part> body) {
        reachedList(body, new ArrayList<>());
        long[] end = list(body, new long[] {1, ALL - 1});
        if (maker.builds && ((end[0] & returned) >> names.indexOf("F") & 1) == 0) {
            report(61, maker.spell);
        }
    }

    public static void main(String[] args) {
        int many = args.length > 0 ? Integer.parseInt(args[0]) : 4000;
        long from = args.length > 1 ? Long.parseLong(args[1]) : 1;
        for (long seed = from; seed < from + many; seed++) {
            Maker maker = new Maker(seed);
            List<Part> body = maker.body();
            FrontHouse x = House.judged(maker.text.toString());
            if (x.fault(0) == 0 || x.fault(0) >= 60) {
                FlowRules rules = new FlowRules(maker);
                rules.judge(maker, body);
                House.same(maker.text + "\n   fault", x.fault(0), rules.fault);
                House.same(maker.text + "\n   place", x.fault(1), rules.place);
            }
        }
        House.end("flow by the specification's rules");
    }
}
