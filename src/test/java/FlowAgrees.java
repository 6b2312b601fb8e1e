import java.util.ArrayList;
import java.util.List;
import java.util.Random;

/**
 * Random bodies with loops, jumps, tries and final variables, against this JDK's compiler: whether a text is
 * taken. A body grows statement by statement; what judge() refuses is mostly left out again.
 * Arguments: how many texts, and a number that they begin from.
 */
public final class FlowAgrees {
    private static final String HEAD = "class X extends Exception { } class Y extends X { } class Z extends Exception { } "
        + "class M { static int q; static boolean c() { return q > 0; } static int i() { return q++; } static void none() { } "
        + "static void x() throws X { } static void y() throws Y { } static void z() throws Z { } static void e() throws Exception { } } "
        + "class Main { final int F; ";

    private final Random random;
    private final StringBuilder text = new StringBuilder(HEAD);
    private final List<String> open = new ArrayList<>();
    private final List<String> given = new ArrayList<>();
    private final List<String> labels = new ArrayList<>();
    private final List<String> caught = new ArrayList<>();
    private int names;
    private int depth;
    private int loops;
    private int switches;

    private FlowAgrees(long seed) {
        random = new Random(seed);
    }

    private boolean chance(int percent) {
        return random.nextInt(100) < percent;
    }

    private String pick(String... list) {
        return list[random.nextInt(list.length)];
    }

    private String name(String first) {
        names++;
        return first + names;
    }

    /** A variable that may be assigned, if it isn't too late. */
    private String target() {
        String v = open.get(random.nextInt(open.size()));
        return v.equals("F") && chance(30) ? "this.F" : v;
    }

    private String variable() {
        int i = random.nextInt(open.size() + given.size());
        return i < open.size() ? open.get(i) : given.get(i - open.size());
    }

    private String number(int level) {
        switch (random.nextInt(level > 2 ? 4 : 9)) {
            case 0: return pick("0", "1", "2");
            case 1:
            case 2: return variable();
            case 4: return "(" + number(level + 1) + " + " + number(level + 1) + ")";
            case 5: return "(" + target() + " = " + number(level + 1) + ")";
            case 6: return "(" + condition(level + 1) + " ? " + number(level + 1) + " : " + number(level + 1) + ")";
            case 7: return chance(40) ? "(" + target() + pick("++", "--") + ")" : "M.i()";
            case 8: return chance(30) ? "(" + target() + " += " + number(level + 1) + ")" : "M.q";
            default: return "M.i()";
        }
    }

    private String condition(int level) {
        switch (random.nextInt(level > 3 ? 3 : 8)) {
            case 0: return chance(30) ? pick("true", "false") : "M.c()";
            case 1: return number(level + 1) + " > 0";
            case 3: return "(" + condition(level + 1) + " && " + condition(level + 1) + ")";
            case 4: return "(" + condition(level + 1) + " || " + condition(level + 1) + ")";
            case 5: return "!(" + condition(level + 1) + ")";
            case 6: return "(" + condition(level + 1) + " ? " + condition(level + 1) + " : " + condition(level + 1) + ")";
            case 7: return "((" + target() + " = " + number(level + 1) + ") == 1)";
            default: return "M.c()";
        }
    }

    private void statement(boolean listed) {
        depth++;
        switch (random.nextInt(depth > 4 ? 9 : 18)) {
            case 0: local(listed); break;
            case 1:
            case 2: text.append(target()).append(" = ").append(number(1)).append("; "); break;
            case 3: text.append("M.q = ").append(number(0)).append("; "); break;
            case 4: text.append(pick("M.x", "M.y", "M.z", "M.e", "M.none", "M.none")).append("(); "); break;
            case 5: jump(); break;
            case 6: thrown(); break;
            case 7:
            case 8: text.append("M.q = ").append(variable()).append("; "); break;
            case 9:
            case 10: choice(); break;
            case 11:
            case 12: loop(); break;
            case 13:
            case 14:
            case 15: guarded(); break;
            case 16: cases(); break;
            default: block(3);
        }
        depth--;
    }

    private void local(boolean listed) {
        if (!listed) {
            text.append("; ");
            return;
        }
        String v = name("v");
        boolean fixed = chance(50);
        boolean value = chance(30);
        text.append(fixed ? "final int " : "int ").append(v).append(value ? " = " + number(1) : "").append("; ");
        (fixed && value ? given : open).add(v);
    }

    private void jump() {
        if (!labels.isEmpty() && chance(50)) {
            String label = labels.get(random.nextInt(labels.size()));
            text.append(pick("break ", "continue ")).append(label).append("; ");
        } else if (chance(60) && loops + switches > 0) {
            text.append(loops > 0 && chance(50) ? "continue; " : "break; ");
        } else {
            text.append(chance(30) ? "return; " : "M.none(); ");
        }
    }

    private void thrown() {
        if (!caught.isEmpty() && chance(50)) {
            text.append("throw ").append(caught.get(random.nextInt(caught.size()))).append("; ");
        } else {
            text.append(chance(40) ? "throw new " + pick("X", "Y", "Z", "Error") + "(); " : "M.none(); ");
        }
    }

    private void choice() {
        text.append("if (").append(condition(1)).append(") ");
        part();
        if (chance(50)) {
            text.append("else ");
            part();
        }
    }

    private void part() {
        if (chance(70)) {
            block(3);
        } else {
            statement(false);
        }
    }

    private void block(int most) {
        int opened = open.size();
        int known = given.size();
        text.append("{ ");
        for (int i = random.nextInt(most + 1); i > 0; i--) {
            statement(true);
        }
        text.append("} ");
        forget(opened, known);
    }

    private void forget(int opened, int known) {
        open.subList(opened, open.size()).clear();
        given.subList(known, given.size()).clear();
    }

    private void loop() {
        String label = chance(40) ? name("L") : "";
        int before = switches;
        switches = 0;
        loops++;
        if (!label.isEmpty()) {
            labels.add(label);
            text.append(label).append(": ");
        }
        switch (random.nextInt(4)) {
            case 0: text.append("while (").append(condition(1)).append(") "); part(); break;
            case 1: text.append("do "); part(); text.append("while (").append(condition(1)).append("); "); break;
            case 2:
                text.append("for (; ").append(chance(70) ? condition(1) : "").append("; ");
                text.append(chance(50) ? target() + " = " + number(1) : "").append(") ");
                part();
                break;
            default: each();
        }
        labels.remove(label);
        loops--;
        switches = before;
    }

    private void each() {
        String v = name("v");
        text.append("for (int ").append(v).append(" : new int[").append(number(2)).append("]) ");
        given.add(v);
        part();
        given.remove(v);
    }

    private void guarded() {
        text.append("try ");
        block(4);
        int catches = random.nextInt(3);
        for (int i = 0; i < catches; i++) {
            String e = name("e");
            text.append("catch (").append(pick("X", "Y", "Z", "X", "Y", "Exception", "Throwable", "Error")).append(' ').append(e).append(") ");
            caught.add(e);
            block(3);
            caught.remove(e);
        }
        if (catches == 0 || chance(45)) {
            text.append("finally ");
            block(3);
        }
    }

    private void cases() {
        int opened = open.size();
        int known = given.size();
        int other = random.nextInt(6);
        switches++;
        text.append("switch (").append(number(2)).append(") { ");
        for (int i = 0; i < random.nextInt(4); i++) {
            text.append(i == other ? "default: " : "case " + i + ": ");
            for (int j = random.nextInt(3); j > 0; j--) {
                statement(true);
            }
            text.append(chance(40) ? "break; " : "");
        }
        text.append("} ");
        switches--;
        forget(opened, known);
    }

    /** Statements that judge() takes, with what stands behind them; now and then one more that it doesn't. */
    private void grow(String behind) {
        for (int i = 0; i < 40 && text.length() < 2300; i++) {
            int length = text.length();
            int opened = open.size();
            int known = given.size();
            depth = random.nextInt(3);
            statement(true);
            if (text.length() <= 2800 && House.judged(text + behind).fault(0) == 0) {
                continue;
            }
            if (text.length() <= 2800 && chance(4)) {
                return;
            }
            text.setLength(length);
            forget(opened, known);
        }
    }

    private String whole() {
        text.append("Main(int a)").append(pick("", " throws X", " throws Exception")).append(" { ");
        boolean early = chance(50);
        text.append(early ? "F = a; " : "");
        open.add("F");
        open.add("a");
        grow(early ? "} }" : "F = 1; } }");
        text.append(early || chance(10) ? "} " : "F = 1; } ");
        open.clear();
        given.clear();
        text.append("static void m(int b)").append(pick("", " throws Y", " throws Y, Z")).append(" { ");
        open.add("b");
        grow("} }");
        return text.append("} }").toString();
    }

    public static void main(String[] args) {
        int many = args.length > 0 ? Integer.parseInt(args[0]) : 150;
        long from = args.length > 1 ? Long.parseLong(args[1]) : 1;
        for (long seed = from; Javac.there() && seed < from + many; seed++) {
            String whole = new FlowAgrees(seed).whole();
            int fault = House.judged(whole).fault(0);
            Javac javac = new Javac(whole);
            House.same(whole + "\n   taken (" + fault + ", " + javac.firstError() + ")", fault == 0 ? 1 : 0, javac.accepted() ? 1 : 0);
        }
        House.end("flow as this JDK has it");
    }
}
