import java.util.ArrayList;
import java.util.Collections;
import java.util.List;
import java.util.Random;

/**
 * Random kinds with type arguments, overloads and throws, and calls of their methods, against this JDK's
 * compiler and machine: whether a text is taken, and what its run puts out. A text grows step by step; what
 * judge() refuses is mostly left out again.
 * Arguments: how many texts, and a number that they begin from.
 */
public final class KindsAgree {
    private static final String[] NAMES = "Object Throwable Exception Error RuntimeException ArithmeticException ArrayIndexOutOfBoundsException ArrayStoreException ClassCastException NegativeArraySizeException NullPointerException ExceptionInInitializerError NoClassDefFoundError Boolean Byte Short Character Integer Long In Out".split(" ");
    // what javac refuses and the document doesn't (37: "an interface that it tells itself", 36: "its own erasure alone")
    private static final List<String> NOT_ASKED = List.of("concrete.inheritance.conflict", "name.clash.same.erasure.no.override",
        "name.clash.same.erasure.no.override.1", "override.incompatible.ret", "override.meth.doesnt.throw", "override.weaker.access",
        "override.static", "types.incompatible", "does.not.override.abstract", "ref.ambiguous");

    private final Random random;
    private final StringBuilder text = new StringBuilder("class X extends Exception { } class Y extends X { } class Z extends Exception { } ");
    private final List<Kind> kinds = new ArrayList<>();
    private int bodies;

    private static final class Kind {
        private final String name;
        private final boolean face;
        private final boolean open;
        private final List<String> vars = new ArrayList<>();

        Kind(String name, boolean face, boolean open) {
            this.name = name;
            this.face = face;
            this.open = face || open;
        }
    }

    private KindsAgree(long seed) {
        random = new Random(seed);
    }

    private boolean chance(int percent) {
        return random.nextInt(100) < percent;
    }

    private <E> E pick(List<E> list) {
        return list.get(random.nextInt(list.size()));
    }

    private String pick(String... list) {
        return list[random.nextInt(list.length)];
    }

    private static boolean taken(String whole) {
        return whole.length() <= 2900 && House.judged(whole).fault(0) == 0;
    }

    private String type(List<String> vars, int depth) {
        if (!vars.isEmpty() && chance(50)) {
            return pick(vars);
        }
        return kinds.isEmpty() || chance(65) ? pick("Integer", "Integer", "Object", "Long", "X") : typeOf(pick(kinds), vars, depth);
    }

    private String typeOf(Kind kind, List<String> vars, int depth) {
        List<String> args = new ArrayList<>();
        for (int i = 0; i < kind.vars.size(); i++) {
            args.add(depth > 1 ? pick("Integer", "Object") : type(vars, depth + 1));
        }
        return kind.name + (args.isEmpty() ? "" : "<" + String.join(", ", args) + ">");
    }

    private void addKind(int number) {
        Kind kind = new Kind("K" + number, chance(35), chance(60));
        kind.vars.addAll(List.of("T", "U").subList(0, chance(50) ? 1 + random.nextInt(2) : 0));
        String head = head(kind);
        kinds.add(kind);
        StringBuilder members = new StringBuilder();
        for (int i = 0; i < 12; i++) {
            String one = method(kind);
            if (taken(text + head + members + one + "} ") || (!taken(text + head + members + "} ") && chance(40))) {
                members.append(one);
            }
        }
        if (taken(text + head + members + "} ") || chance(8)) {
            text.append(head).append(members).append("} ");
        } else {
            kinds.remove(kind);
        }
    }

    private String head(Kind kind) {
        List<Kind> classes = new ArrayList<>();
        List<Kind> faces = new ArrayList<>();
        for (Kind k : kinds) {
            (k.face ? faces : classes).add(k);
        }
        StringBuilder head = new StringBuilder(kind.face ? "interface " : kind.open ? "abstract class " : "class ").append(kind.name);
        head.append(kind.vars.isEmpty() ? "" : "<" + String.join(", ", kind.vars) + ">");
        if (!kind.face && !classes.isEmpty() && chance(75)) {
            head.append(" extends ").append(typeOf(pick(classes), kind.vars, 1));
        }
        Collections.shuffle(faces, random);
        for (int i = 0; i < faces.size() && i < 2 && chance(70); i++) {
            head.append(i > 0 ? ", " : kind.face ? " extends " : " implements ").append(typeOf(faces.get(i), kind.vars, 1));
        }
        return head.append(" { ").toString();
    }

    private String method(Kind kind) {
        boolean open = kind.face || (kind.open && chance(45));
        boolean still = !open && chance(6);
        List<String> vars = new ArrayList<>(still ? List.of() : kind.vars);
        StringBuilder m = new StringBuilder(kind.face ? "" : chance(85) ? "public " : pick("", "protected "));
        m.append(open && !kind.face ? "abstract " : still ? "static " : "");
        if (chance(10)) {
            m.append("<V").append(chance(40) ? " extends " + type(vars, 1) : "").append("> ");
            vars.add("V");
        }
        String result = chance(60) ? "void" : chance(25) ? pick("int", "long") : type(vars, 0);
        m.append(result).append(' ').append(pick("f", "f", "g")).append('(');
        int formals = random.nextInt(4) == 0 ? 0 : 1 + random.nextInt(10) / 9;
        for (int i = 0; i < formals; i++) {
            m.append(i > 0 ? ", " : "").append(chance(15) ? pick("int", "long", "char") : type(vars, 0));
            m.append(i == formals - 1 && chance(8) ? "... a" : " a").append(i);
        }
        m.append(')').append(chance(25) ? " throws " + pick("X", "Y", "Z", "Exception", "Y, Z", "Error") : "");
        return m.append(open ? "; " : body(result)).toString();
    }

    private String body(String result) {
        bodies++;
        String back = result.equals("void") ? "" : result.equals("int") || result.equals("long") ? "return 0; " : "return null; ";
        return " { Out.put(" + bodies + "); " + back + "} ";
    }

    /** A method of Main for each call, so that each has its own throws. */
    private void addMain() {
        StringBuilder callers = new StringBuilder("class Main { ");
        StringBuilder main = new StringBuilder("static void main() { ");
        for (int i = 0; i < 25; i++) {
            String type = typeOf(pick(kinds), List.of(), 1);
            String told = chance(75) ? " throws " + pick("Exception", "Exception", "X", "Y", "Z") : "";
            String caller = "static void c" + i + "(" + type + " v)" + told + " { v." + pick("f", "f", "g") + "(" + arguments() + "); } ";
            if (taken(text + callers.toString() + caller + "}") || chance(1)) {
                callers.append(caller);
                main.append(use(callers, i));
            }
        }
        text.append(callers).append(main).append("} }");
    }

    private String arguments() {
        StringBuilder args = new StringBuilder();
        int many = random.nextInt(4) == 0 ? 0 : 1 + random.nextInt(10) / 9;
        for (int i = 0; i < many; i++) {
            args.append(i > 0 ? ", " : "").append(chance(30) ? pick("1", "1L", "'c'", "null", "(Integer) 1") : "(" + type(List.of(), 1) + ") null");
        }
        return args.toString();
    }

    private String use(StringBuilder callers, int number) {
        for (int i = 0; i < 6; i++) {
            String call = "try { c" + number + "(new " + typeOf(pick(kinds), List.of(), 1) + "()); } catch (Exception e) { Out.put(e); } ";
            if (taken(text + callers.toString() + "static void main() { " + call + "} }")) {
                return call;
            }
        }
        return "";
    }

    private String grow() {
        int many = 3 + random.nextInt(5);
        for (int i = 0; i < many; i++) {
            addKind(i);
        }
        if (!kinds.isEmpty()) {
            addMain();
        }
        return text.toString();
    }

    private static String kindName(String whole, FrontHouse x, long number) {
        if (number < 0) {
            return NAMES[(int) (-1 - number)];
        }
        int from = x.kind((int) number, 0);
        int to = from;
        while (Character.isJavaIdentifierPart(whole.charAt(to))) {
            to++;
        }
        return whole.substring(from, to);
    }

    private static String ours(String whole, FrontHouse x) {
        StringBuilder told = new StringBuilder(x.about(0) == 1 ? kindName(whole, x, x.about(1)) : "" + x.about(0));
        for (int i = 0; i < x.about(4); i++) {
            long kind = x.out(i, 0);
            long value = x.out(i, 1);
            String what = kind != 4 ? "" + value : value == 0 ? "null" : kindName(whole, x, value - 100);
            told.append(' ').append(kind).append(':').append(what);
        }
        return told.toString();
    }

    private static void compare(String whole) {
        if (whole.length() > 2950) {
            return;
        }
        FrontHouse x = House.judged(whole);
        int fault = x.fault(0);
        // 37 is asked for where javac sees no clash of erasures, 47 where it finds the type arguments itself
        if (fault == 37 || fault == 47) {
            return;
        }
        Javac javac = new Javac(whole);
        if (fault == 0 && NOT_ASKED.contains(javac.firstError())) {
            return;
        }
        House.same(whole + "\n   taken (" + fault + ", " + javac.firstError() + ")", fault == 0 ? 1 : 0, javac.accepted() ? 1 : 0);
        if (fault == 0 && javac.accepted() && x.run(50000, 20000) >= 0) {
            House.same(whole + "\n   run", ours(whole, x), javac.run());
        }
    }

    public static void main(String[] args) {
        int many = args.length > 0 ? Integer.parseInt(args[0]) : 60;
        long from = args.length > 1 ? Long.parseLong(args[1]) : 1;
        for (long seed = from; Javac.there() && seed < from + many; seed++) {
            compare(new KindsAgree(seed).grow());
        }
        House.end("kinds and calls as this JDK has them");
    }
}
