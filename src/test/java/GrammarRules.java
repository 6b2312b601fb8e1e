import java.util.ArrayList;
import java.util.Arrays;
import java.util.HashMap;
import java.util.HashSet;
import java.util.List;
import java.util.Map;
import java.util.Set;

/**
 * The grammar of the document's part I, written down as rules and recognised in Earley's way, against
 * judge(): many texts are made by the rules, or put together from parts that can be read in two ways,
 * and then changed token by token; whether there is a fault 1 or 2, and its place, must be the same.
 * Arguments: how many texts (5 forms of each are asked), and a number that they begin from.
 */
public final class GrammarRules {
    // ' is ahead of a token, ! ahead of one that is refused there; CLOSE is one > of a token;
    // LESS is a < with which no type arguments begin; STMT takes nothing, where no declaration begins
    private static final String[] RULES = {
        "text = | text '; | text kind",
        "mods = | mods 'public | mods 'protected | mods 'private | mods 'static | mods 'abstract | mods 'final",
        "kind = mods 'class NAME vars0 ext0 impl0 '{ cmembers '} | mods 'interface NAME vars0 iext0 '{ imembers '}",
        "vars0 = | vars",
        "vars = LESS varlist CLOSE",
        "varlist = var | varlist ', var",
        "var = NAME | NAME 'extends ref | NAME 'extends ref !&",
        "ext0 = | 'extends ref",
        "impl0 = | 'implements refs",
        "iext0 = | 'extends refs",
        "refs = ref | refs ', ref",
        "cmembers = | cmembers '; | cmembers field | cmembers method | cmembers ctor | cmembers !{ | cmembers 'static !{ | cmembers mods !class | cmembers mods !interface",
        "imembers = | imembers '; | imembers field | imembers method | imembers mods !class | imembers mods !interface",
        "field = mods type decls ';",
        "decls = decl | decls ', decl",
        "decl = NAME dims | NAME dims '= init",
        "dims = | dims '[ ']",
        "dims1 = '[ '] | dims1 '[ ']",
        "init = exp | braces",
        "braces = '{ '} | '{ ', '} | '{ inits '} | '{ inits ', '}",
        "inits = init | inits ', init",
        "method = mods vars0 result NAME '( formals ') throws0 mbody",
        "result = 'void | type",
        "mbody = block | ';",
        "throws0 = | 'throws refs",
        "ctor = mods NAME '( formals ') throws0 block",
        "formals = | formals1 | last | formals1 ', last",
        "formals1 = formal | formals1 ', formal",
        "final0 = | 'final",
        "formal = final0 type NAME dims",
        "last = final0 type '... NAME",
        "prim = 'boolean | 'byte | 'short | 'char | 'int | 'long",
        "type = prim dims | ref dims",
        "ref = NAME | NAME typeargs",
        "typeargs = '< targs CLOSE",
        "targs = targ | targs ', targ",
        "targ = ref dims | prim dims1 | !?",
        "block = '{ listed '}",
        "listed = | listed lstatement",
        "lstatement = other | STMT acting '; | final0 type decls '; | final0 !class | final0 !interface",
        "statement = other | acting ';",
        "other = block | '; | NAME ': statement | 'if '( exp ') statement | 'if '( exp ') statement 'else statement"
            + " | 'while '( exp ') statement | 'do statement 'while '( exp ') ';"
            + " | 'for '( fstart '; fcond '; fnext ') statement | 'for '( final0 type NAME dims ': exp ') statement"
            + " | 'break '; | 'break NAME '; | 'continue '; | 'continue NAME '; | 'return '; | 'return exp '; | 'throw exp ';"
            + " | 'try block catches | 'try block catches 'finally block | 'try block 'finally block | 'try !("
            + " | 'switch '( exp ') '{ groups '} | 'this '( args ') '; | 'super '( args ') '; | !class | !interface",
        "fstart = | final0 type decls | STMT actions",
        "fcond = | exp",
        "fnext = | actions",
        "actions = acting | actions ', acting",
        "catches = catch | catches catch",
        "catch = 'catch '( final0 ref NAME ') block | 'catch '( final0 ref !|",
        "groups = | groups labels listed",
        "labels = label | labels label",
        "label = 'case exp ': | 'default ':",
        "acting = cond assign exp | '++ unary | '-- unary | postfix '++ | postfix '-- | call | newobj",
        "assign = '= | '*= | '/= | '%= | '+= | '-= | '<<= | '>>= | '>>>= | '&= | '^= | '|=",
        "exp = cond | cond assign exp",
        "cond = oror | oror '? exp ': cond",
        "oror = andand | oror '|| andand",
        "andand = or | andand '&& or",
        "or = xor | or '| xor",
        "xor = and | xor '^ and",
        "and = eq | and '& eq",
        "eq = rel | eq '== rel | eq '!= rel",
        "rel = shift | rel '< shift | rel '<= shift | rel '> shift | rel '>= shift | rel 'instanceof type",
        "shift = add | shift '<< add | shift '>> add | shift '>>> add",
        "add = mul | add '+ mul | add '- mul",
        "mul = unary | mul '* unary | mul '/ unary | mul '% unary",
        "unary = '+ unary | '- unary | '- MIN | '++ unary | '-- unary | operand",
        "operand = plain | !? | !switch",
        "plain = '! unary | '~ unary | cast | postfix",
        "cast = '( prim ') unary | '( NAME ') plain | '( castref ') operand",
        "castref = prim dims1 | NAME dims1 | NAME typeargs dims",
        "postfix = primary | postfix '++ | postfix '--",
        "primary = nonew | newrow",
        "nonew = LITERAL | 'this | '( exp ') | NAME | call | 'super '. NAME | 'super '. nodot | primary '. NAME | primary '. nodot | nonew '[ exp '] | newobj",
        "nodot = !class | !this | !super | !new",
        "call = NAME '( args ') | primary '. targs0 NAME '( args ') | 'super '. targs0 NAME '( args ')",
        "targs0 = | typeargs",
        "args = | args1",
        "args1 = exp | args1 ', exp",
        "newobj = 'new ref '( args ') | 'new ref '( args ') !{",
        "newrow = 'new rp sizes dims | 'new rp dims1 braces",
        "rp = ref | prim",
        "sizes = '[ exp '] | sizes '[ exp ']"};

    private static final String[] SOME_NAMES = {"A", "B", "T", "a", "b", "o"};
    private static final List<String> LITERALS = Arrays.asList("1", "0x1f", "07", "2L", "'c'", "true", "false", "null");
    private static final List<String> LEAST = Arrays.asList("2147483648", "9223372036854775808L");
    private static final List<String> PRIMITIVES = Arrays.asList("boolean", "byte", "short", "char", "int", "long");
    private static final List<String> REFUSED = Arrays.asList("@", "->", "::", "double", "var", "\"", "1.5");
    private static final List<String> CLOSERS = Arrays.asList(">", ">>", ">>>", ">=", ">>=", ">>>=");
    private static final String[] OTHERS = (">> >>> >= >>= >>>= > < << ? [ ] ( ) { } , ; . : = + - ++ ! & | * A a 1 int instanceof final new this super class"
        + " switch ... 2147483648 case default if else for try void static && == return extends throws interface _ goto @ -> :: double var \" 1.5"
        + " while do catch finally break throw implements").split(" ");
    private static final String[] PARTS = ("a;A;b;<;>;>>;<;>;,;[;];[ ];(;);int;?;:;=;==;&&;+;-;o instanceof A <;instanceof;A < b >;A < b [ ] >;A < B < b >>"
        + ";( A < b > );( A );( A [ ] );1;>=;>>=;>>>;.;++;new;this;switch;!;{;};a =").split(";");
    private static final String[] STARTS = {
        "class A { void f ( ) { a (", "class A { void f ( ) { return o instanceof A <", "class A { void f ( ) {", "class A { int [ ] a = {",
        "class A { boolean a = o instanceof A <", "class A { void f ( ) { for (", "class A { void f ( ) { a ( o instanceof A <",
        "class A { void f ( ) { a [ o instanceof A <", "class A { void f ( ) { a = b ? o instanceof A <", "class A { int [ ] a = { o instanceof A <",
        "class A { void f ( ) { A <", "class A { void f ( ) { a = ( A <", "class A { void f ( ) { a ( a ? a : o instanceof A <"};
    private static final String[] ENDS = {") ; } }", "; } }", "} ; }", "; ; ) ; } }", "] = a ; } }", ": a ; } }", ";", "= a ; } }", "++ ; } }", ") a ; } }"};

    private static final int MUCH = 1000000;

    // a symbol is a head's number, or -1 less a token's
    private static final Map<String, Integer> HEADS = new HashMap<>();
    private static final List<String> TOKENS = new ArrayList<>();
    private static final List<int[]> RIGHT = new ArrayList<>();
    private static final List<Integer> LEFT = new ArrayList<>();
    private static final List<List<Integer>> OF = new ArrayList<>();
    private static boolean[] empty;
    private static int[] least;

    private static long seed = 20261118;
    private static String[] tokens;

    private GrammarRules() {
    }

    private static int pick(int n) {
        seed = seed * 6364136223846793005L + 1442695040888963407L;
        return (int) ((seed >>> 33) % n);
    }

    // ---- the rules

    private static int symbol(String word) {
        if (HEADS.containsKey(word)) {
            return HEADS.get(word);
        }
        if (!TOKENS.contains(word)) {
            TOKENS.add(word);
        }
        return -1 - TOKENS.indexOf(word);
    }

    private static String token(int symbol) {
        return TOKENS.get(-1 - symbol);
    }

    private static void readRules() {
        for (String rule : RULES) {
            HEADS.put(rule.substring(0, rule.indexOf(' ')), HEADS.size());
            OF.add(new ArrayList<>());
        }
        for (int head = 0; head < RULES.length; head++) {
            String[] words = (RULES[head].substring(RULES[head].indexOf('=') + 1) + " |").trim().split(" +");
            List<Integer> right = new ArrayList<>();
            for (String word : words) {
                if (word.equals("|")) {
                    OF.get(head).add(RIGHT.size());
                    RIGHT.add(right.stream().mapToInt(i -> i).toArray());
                    LEFT.add(head);
                    right.clear();
                } else {
                    right.add(symbol(word));
                }
            }
        }
        measure();
    }

    /** How few tokens there can be of each head; what is refused counts as very many. */
    private static void measure() {
        empty = new boolean[HEADS.size()];
        least = new int[HEADS.size()];
        Arrays.fill(least, MUCH);
        for (int round = 0; round < HEADS.size(); round++) {
            for (int r = 0; r < RIGHT.size(); r++) {
                int size = size(RIGHT.get(r), MUCH);
                least[LEFT.get(r)] = Math.min(least[LEFT.get(r)], size);
                empty[LEFT.get(r)] |= size == 0;
            }
        }
    }

    private static int size(int[] right, int refused) {
        int size = 0;
        for (int s : right) {
            size += s >= 0 ? least[s] : token(s).equals("STMT") ? 0 : token(s).charAt(0) == '!' ? refused : 1;
        }
        return Math.min(size, MUCH);
    }

    // ---- texts

    private static void make(int symbol, int budget, List<String> out) {
        if (symbol < 0) {
            makeToken(token(symbol), out);
            return;
        }
        List<Integer> fit = new ArrayList<>();
        for (int r : OF.get(symbol)) {
            int size = size(RIGHT.get(r), pick(30) == 0 ? 1 : MUCH);
            if (size <= budget || size <= least[symbol]) {
                fit.add(r);
            }
        }
        int[] right = RIGHT.get(fit.get(pick(fit.size())));
        int spare = Math.max(0, budget - size(right, 1));
        for (int s : right) {
            int more = s < 0 ? 0 : pick(spare + 1);
            spare -= more;
            make(s, s < 0 ? 0 : least[s] + more, out);
        }
    }

    private static void makeToken(String t, List<String> out) {
        switch (t) {
            case "STMT": break;
            case "NAME": out.add(SOME_NAMES[pick(SOME_NAMES.length)]); break;
            case "LITERAL": out.add(LITERALS.get(pick(LITERALS.size()))); break;
            case "MIN": out.add(LEAST.get(pick(2))); break;
            case "CLOSE": out.add(">"); break;
            case "LESS": out.add("<"); break;
            default: out.add(t.substring(1)); break;
        }
    }

    private static List<String> makeText() {
        List<String> t = new ArrayList<>();
        String start = "";
        String end = "";
        int form = pick(8);
        switch (form) {
            case 0: break;
            case 1: start = "class A { void f ( ) {"; end = "} }"; break;
            case 2: start = "class A { int a ="; end = "; }"; break;
            case 3: start = "class A { void f ( ) { a ( o instanceof A <"; end = ") ; } }"; break;
            default: start = STARTS[pick(STARTS.length)]; end = ENDS[pick(ENDS.length)]; break;
        }
        t.addAll(Arrays.asList(start.split(" ")));
        if (form < 4) {
            make(HEADS.get(form == 0 ? "text" : form == 1 ? "listed" : "exp"), 10 + pick(60), t);
        }
        for (int i = pick(9); form >= 4 && i >= 0; i--) {
            t.addAll(Arrays.asList(PARTS[pick(PARTS.length)].split(" ")));
        }
        t.addAll(Arrays.asList(end.split(" ")));
        t.removeIf(String::isEmpty);
        return t;
    }

    private static void change(List<String> t) {
        if (t.isEmpty()) {
            t.add(";");
        }
        int at = pick(t.size());
        switch (pick(5)) {
            case 0: t.remove(at); break;
            case 1: t.add(at, OTHERS[pick(OTHERS.length)]); break;
            case 2: t.set(at, OTHERS[pick(OTHERS.length)]); break;
            case 3: t.add(at, t.get(pick(t.size()))); break;
            default: t.set(at, t.get(pick(t.size()))); break;
        }
    }

    /** > that stand side by side become one token now and then. */
    private static void glue(List<String> t) {
        for (int i = t.size() - 2; i >= 0; i--) {
            String both = t.get(i) + t.get(i + 1);
            if (CLOSERS.contains(both) && pick(3) > 0) {
                t.set(i, both);
                t.remove(i + 1);
            }
        }
    }

    // ---- recognising; a place is a token's number * 4 and how many of its > are read

    private static String rest(int p) {
        return p / 4 < tokens.length && p % 4 < tokens[p / 4].length() ? tokens[p / 4].substring(p % 4) : "";
    }

    private static boolean isName(String t) {
        return t.length() == 1 && Character.isLetter(t.charAt(0));
    }

    private static int behind(String terminal, int p) {
        String t = rest(p);
        boolean fits = terminal.charAt(0) == '\'' && terminal.substring(1).equals(t);
        switch (terminal) {
            case "NAME": fits = isName(t); break;
            case "LESS": fits = t.equals("<"); break;
            case "LITERAL": fits = LITERALS.contains(t); break;
            case "MIN": fits = LEAST.contains(t); break;
            case "CLOSE": return !t.startsWith(">") ? -1 : t.length() > 1 ? p + 1 : (p / 4 + 1) * 4;
            default: break;
        }
        return fits ? (p / 4 + 1) * 4 : -1;
    }

    private static boolean declares(int p) {
        int q = behindType(p);
        return rest(p).equals("final") || PRIMITIVES.contains(rest(p)) || (q >= 0 && q % 4 == 0 && isName(rest(q)));
    }

    private static boolean refusedLess(int p) {
        return rest(p).equals("<") && CLOSERS.contains(rest((p / 4 + 1) * 4));
    }

    private static int behindType(int p) {
        boolean primitive = PRIMITIVES.contains(rest(p));
        if (!primitive && !isName(rest(p))) {
            return -1;
        }
        int q = (p / 4 + 1) * 4;
        if (!primitive && rest(q).equals("<") && !refusedLess(q)) {
            do {
                int from = q + 4;
                q = behindType(from);
                if (q < 0 || (PRIMITIVES.contains(rest(from)) && q == from + 4)) {
                    return -1;
                }
            } while (rest(q).equals(","));
            q = behind("CLOSE", q);
        }
        while (q >= 0 && q % 4 == 0 && rest(q).equals("[") && rest(q + 4).equals("]")) {
            q += 8;
        }
        return q;
    }

    private static List<List<int[]>> sets;
    private static List<Set<Long>> seen;

    private static void add(int p, int rule, int dot, int origin) {
        if (seen.get(p).add(((long) rule << 40) | ((long) dot << 32) | origin)) {
            sets.get(p).add(new int[] {rule, dot, origin});
        }
    }

    private static void complete(int rule, int origin, int p) {
        List<int[]> from = sets.get(origin);
        for (int j = 0; j < from.size(); j++) {
            int[] item = from.get(j);
            int[] right = RIGHT.get(item[0]);
            if (item[1] < right.length && right[item[1]] == LEFT.get(rule)) {
                add(p, item[0], item[1] + 1, item[2]);
            }
        }
    }

    /** One item of a place's set; whether the token there is refused by it. */
    private static boolean advance(int[] item, int p) {
        int[] right = RIGHT.get(item[0]);
        if (item[1] == right.length) {
            complete(item[0], item[2], p);
            return false;
        }
        int s = right[item[1]];
        if (s >= 0) {
            for (int r : OF.get(s)) {
                add(p, r, 0, p);
            }
            if (empty[s]) {
                add(p, item[0], item[1] + 1, item[2]);
            }
            return false;
        }
        String t = token(s);
        if (t.equals("STMT")) {
            if (!declares(p)) {
                add(p, item[0], item[1] + 1, item[2]);
            }
            return false;
        }
        if (t.charAt(0) == '!') {
            return t.substring(1).equals(rest(p));
        }
        if (t.equals("'<") && refusedLess(p)) {
            return true;
        }
        int q = behind(t, p);
        if (q >= 0) {
            add(q, item[0], item[1] + 1, item[2]);
        }
        return false;
    }

    /** The fault and the place where no text goes on; 0 and -1 of a text. */
    private static int[] recognise() {
        sets = new ArrayList<>();
        seen = new ArrayList<>();
        int places = tokens.length * 4 + 5;
        for (int p = 0; p < places; p++) {
            sets.add(new ArrayList<>());
            seen.add(new HashSet<>());
        }
        for (int r : OF.get(HEADS.get("text"))) {
            add(0, r, 0, 0);
        }
        int[] end = {1, 0};
        for (int p = 0; p < places; p++) {
            boolean refused = REFUSED.contains(rest(p));
            for (int k = 0; k < sets.get(p).size(); k++) {
                refused |= advance(sets.get(p).get(k), p);
            }
            if (!sets.get(p).isEmpty()) {
                end = new int[] {refused ? 2 : 1, p};
            }
        }
        for (int[] item : sets.get(tokens.length * 4)) {
            if (LEFT.get(item[0]).equals(HEADS.get("text")) && item[1] == RIGHT.get(item[0]).length) {
                return new int[] {0, -1};
            }
        }
        return end;
    }

    private static void check(List<String> t) {
        tokens = t.toArray(new String[0]);
        String text = String.join(" ", t);
        if (text.length() > 2980) {
            return;
        }
        FrontHouse x = House.judged(text);
        if (x.fault(0) == 3) {
            return;
        }
        int[] due = recognise();
        int place = due[1] % 4;
        for (int i = 0; i < due[1] / 4; i++) {
            place += tokens[i].length() + 1;
        }
        boolean reading = x.fault(0) == 1 || x.fault(0) == 2;
        House.same(text, reading ? x.fault(0) + " at " + x.fault(1) : "none", due[0] == 0 ? "none" : due[0] + " at " + Math.min(place, text.length()));
    }

    public static void main(String[] args) {
        int many = args.length > 0 ? Integer.parseInt(args[0]) : 1500;
        if (args.length > 1) {
            seed = Long.parseLong(args[1]);
        }
        readRules();
        for (int i = 0; i < many; i++) {
            List<String> t = makeText();
            glue(t);
            check(t);
            for (int k = 0; k < 4; k++) {
                change(t);
                check(t);
            }
        }
        House.end("texts by the grammar's rules");
    }
}
