/** Promises 1 to 4 and 12 to 15: what calls refuse, what they leave as it is, and what they answer ahead of anything. */
public final class PromiseEdges {
    private static final int BLANK = 0x20202020;
    private static final String RUNS = "class Main { static void main() { Out.put(7); } }";

    private static int blanks(FrontHouse x) {
        return x.feed(BLANK, BLANK, BLANK, BLANK, BLANK);
    }

    private static int judge(FrontHouse x, String text) {
        House.feed(x, text);
        return x.judge(text.length());
    }

    /** Promise 1: "An empty tape; no text is taken; nothing is given." */
    private static void anew() {
        FrontHouse x = new FrontHouse();
        House.same("NONE", FrontHouse.NONE, -1);
        House.same("an empty tape", x.judge(1), -1);
        for (int what = -1; what < 9; what++) {
            House.same("fault", x.fault(what), -1);
            House.same("about", x.about(what), -1);
            House.same("count", x.count(what), what < 0 || what > 6 ? -1 : 0);
            House.same("kind", x.kind(0, what), -1);
            House.same("out", x.out(0, what), 0);
        }
        House.same("run", x.run(1, 1), -1);
        House.same("run", x.run(50000, 20000), -1);
        House.same("serves", x.serves(0, 0), -1);
        House.same("constant", x.constant(0), 0);
        House.same("give", x.give(0), 1);
        House.same("feed", blanks(x), 20);
    }

    /** Promise 2: "Twenty bytes more .., four of each number, the highest first: how many there are. NONE if there would be more than 3,000." */
    private static void feed() {
        FrontHouse x = new FrontHouse();
        for (int i = 1; i <= 150; i++) {
            House.same("feed", blanks(x), 20 * i);
        }
        House.same("one too many", blanks(x), -1);
        House.same("one too many", x.feed(0, 0, 0, 0, 0), -1);
        House.same("3,001 aren't there", x.judge(3001), -1);
        House.same("3,000 are, without the zeros", x.judge(3000), 0);
        House.same("feed anew", blanks(x), 20);
        x = new FrontHouse();
        x.feed('c' << 24 | 'l' << 16 | 'a' << 8 | 's', 's' << 24 | ' ' << 16 | 'A' << 8 | '{', '}' << 24 | BLANK & 0xffffff, BLANK, BLANK);
        House.same("the highest first", x.judge(9), 0);
        House.same("place of the name", x.kind(0, 0), 6);
        x.feed(0x20202080, BLANK, BLANK, BLANK, BLANK);
        House.same("a byte 128", x.judge(20), 1);
        House.same("its place", x.fault(1), 3);
        x.feed(-1, BLANK, BLANK, BLANK, BLANK);
        House.same("a byte 255", x.judge(20), 1);
        House.same("its place", x.fault(1), 0);
        x.feed(BLANK, BLANK, BLANK, BLANK, Integer.MIN_VALUE);
        House.same("ahead of it", x.judge(16), 0);
        x.feed(BLANK, BLANK, BLANK, BLANK, Integer.MIN_VALUE);
        House.same("with it", x.judge(17), 1);
        House.same("its place", x.fault(1), 16);
    }

    /** Promise 3: "The first n bytes of the tape are judged (it is empty then) .. NONE, doing nothing, if n is below 0 or more than there are." */
    private static void judge() {
        FrontHouse x = new FrontHouse();
        House.same("empty", x.judge(0), 0);
        blanks(x);
        for (int n : new int[] {Integer.MIN_VALUE, -1, 21, 3000, Integer.MAX_VALUE}) {
            House.same("judge(" + n + ")", x.judge(n), -1);
        }
        House.same("the tape stays", blanks(x), 40);
        House.same("judge", x.judge(40), 0);
        House.same("it is empty", x.judge(1), -1);
        House.same("it is empty", x.judge(0), 0);
        House.feed(x, "class A { } class B { }");
        House.same("the first 11", x.judge(11), 0);
        House.same("one kind", x.count(0), 1);
        House.same("what is behind is gone", x.judge(1), -1);
        House.feed(x, "class A { } class B { }");
        House.same("the first 12", x.judge(12), 0);
        House.feed(x, "class A { } class B { }");
        House.same("the first 10", x.judge(10), 1);
        House.same("at the text's end", x.fault(1), 10);
        House.same("it is empty by a fault, too", x.judge(1), -1);
        House.same("what was taken stays", x.count(0), 1);
        House.feed(x, "class A { } class B { }");
        House.same("all", x.judge(23), 0);
        House.same("two kinds", x.count(0), 2);
        House.same("nothing", x.judge(0), 0);
        House.same("no kind", x.count(0), 0);
    }

    /** Promise 4: "Of the latest judge() that wasn't NONE: its FAULT (what 0; 0 none), its place (1; NONE). NONE for another what, and ahead of any." */
    private static void fault() {
        FrontHouse x = new FrontHouse();
        x.judge(-1);
        x.judge(5);
        House.same("ahead of any", x.fault(0), -1);
        House.same("ahead of any", x.fault(1), -1);
        judge(x, "class A { int x, x; }");
        faultIs(x, 30, 17);
        x.judge(-1);
        faultIs(x, 30, 17);
        x.judge(99);
        faultIs(x, 30, 17);
        judge(x, "class A { }");
        faultIs(x, 0, -1);
        x.judge(1);
        faultIs(x, 0, -1);
        judge(x, "#");
        faultIs(x, 1, 0);
        for (int what : new int[] {Integer.MIN_VALUE, -1, 2, 3, Integer.MAX_VALUE}) {
            House.same("fault(" + what + ")", x.fault(what), -1);
        }
    }

    private static void faultIs(FrontHouse x, int fault, int place) {
        House.same("fault(0)", x.fault(0), fault);
        House.same("fault(1)", x.fault(1), place);
    }

    /** Promise 3: "or its FAULT, and all stays but fault()". */
    private static void stays() {
        String[] bad = {"#", "class A { \"", "class " + House.times("A", 31), "class A { B b; }", "class A { void f() { } void f() { } }", "interface I { void f(); } class A implements I { }",
            "class A { int x = y; }", "class A { int f() { } }", "class A { static int x = 1; } class Main { static void main() { int z; z++; } }"};
        FrontHouse x = new FrontHouse();
        x.give(5);
        House.same("judge", judge(x, RUNS), 0);
        House.same("run", x.run(100, 100), 0);
        for (String b : bad) {
            int fault = judge(x, b);
            House.same("a fault: " + b, fault > 0 ? 1 : 0, 1);
            House.same("fault(0)", x.fault(0), fault);
            House.same("kinds", x.count(0), 1);
            House.same("methods", x.count(1), 1);
            House.same("expressions", x.count(3), 2);
            House.same("place", x.kind(0, 0), 6);
            House.same("call", x.call(0, 1), -2);
            House.same("about", x.about(0), 0);
            House.same("about", x.about(4), 1);
            House.same("out", x.out(0, 1), 7);
            House.same("run", x.run(100, 100), 0);
            House.same("out", x.out(0, 1), 7);
        }
        House.same("give", x.give(6), 2);
    }

    /** Promise 13: "NONE, doing nothing, for other numbers, without a text, or if it has no such main". */
    private static void run() {
        FrontHouse x = new FrontHouse();
        House.same("without a text", x.run(100, 100), -1);
        House.same("judge", judge(x, RUNS), 0);
        House.same("not run yet", x.about(0), -1);
        House.same("the least of both", x.run(1, 1), 2);
        House.same("the most of both", x.run(50000, 20000), 0);
        int[] steps = {Integer.MIN_VALUE, -1, 0, 50001, Integer.MAX_VALUE};
        int[] cells = {Integer.MIN_VALUE, -1, 0, 20001, Integer.MAX_VALUE};
        for (int n : steps) {
            House.same("run(" + n + ", 1)", x.run(n, 1), -1);
            House.same("about stays", x.about(2), 3);
            House.same("out stays", x.out(0, 1), 7);
        }
        for (int n : cells) {
            House.same("run(1, " + n + ")", x.run(1, n), -1);
            House.same("about stays", x.about(2), 3);
            House.same("out stays", x.out(0, 1), 7);
        }
        House.same("run(1, 20000)", x.run(1, 20000), 2);
        House.same("steps", x.about(2), 1);
        House.same("nothing is left of the run ahead", x.about(4), 0);
        House.same("nothing is left of the run ahead", x.out(0, 1), 0);
        House.same("run(50000, 1)", x.run(50000, 1), 0);
        House.same("judge", judge(x, "class A { }"), 0);
        House.same("no main", x.run(100, 100), -1);
        House.same("not run", x.about(0), -1);
        House.same("no entries", x.out(0, 1), 0);
    }

    /** VI: "static void main() of the kind Main (whatever the kind's vars ..; a main with vars of its own is none)". */
    private static void mains() {
        String[] yes = {"class Main { static void main() { } }", "class Main<T, U> { static void main() { } }", "final class Main { public static final void main() throws Exception { } }",
            "abstract class Main { private static void main() { } }", "class Main { void main(int x) { } static void main() { } static void main(int... x) { } }", "class A { } class Main extends A { protected static void main() { } }"};
        for (String s : yes) {
            House.same("runs: " + s, House.taken(s).run(100, 100), 0);
        }
        String[] no = {"class Main { void main() { } }", "class Main { static int main() { return 1; } }", "class Main { static void main(int x) { } }", "class Main { static void main(int... x) { } }",
            "class Main { static <T> void main() { } }", "class main { static void main() { } }", "class A { static void main() { } }", "interface Main { void main(); }", "class Main { }", "class Main { static void Main() { } }", "class Main { Main() { } }", ""};
        for (String s : no) {
            House.same("doesn't run: " + s, House.taken(s).run(100, 100), -1);
        }
    }

    /** Promise 14: "NONE for another what, or without one". */
    private static void about() {
        FrontHouse x = House.taken(RUNS);
        for (int what = 0; what < 7; what++) {
            House.same("without one", x.about(what), -1);
        }
        x.run(100, 100);
        int[] want = {0, 0, 3, 0, 1, 1, 0};
        for (int what = 0; what < 7; what++) {
            House.same("about(" + what + ")", x.about(what), want[what]);
        }
        for (int what : new int[] {Integer.MIN_VALUE, -1, 7, 8, Integer.MAX_VALUE}) {
            House.same("about(" + what + ")", x.about(what), -1);
        }
        judge(x, RUNS);
        House.same("of this text alone", x.about(0), -1);
        House.same("its entries are gone", x.out(0, 0), 0);
    }

    /** Promise 14: "1 the number of the kind of what was thrown (0 else)". */
    private static void thrown() {
        String[] what = {"throw new E();", "throw new Throwable();", "throw new Exception();", "throw new Error();", "throw new RuntimeException();", "int x = 1 / (0 * In.next());", "int x = new int[1].length; int[] a = { }; x = a[0];",
            "Object[] a = new Main[1]; a[0] = 1;", "Object o = 1; Main m = (Main) o;", "Object o = new int[In.next() - 1];", "throw null;"};
        int[] number = {1, -2, -3, -4, -5, -6, -7, -8, -9, -10, -11};
        for (int i = 0; i < what.length; i++) {
            FrontHouse x = House.taken("class Main { static void main() throws Throwable { " + what[i] + " } } class E extends Error { }");
            House.same("run of " + what[i], x.run(100, 100), 1);
            House.same("how it ended", x.about(0), 1);
            House.same("thrown by " + what[i], x.about(1), number[i]);
        }
        FrontHouse x = House.taken("class Main { static int x = 1 / In.next(); static void main() { } }");
        House.same("run", x.run(100, 100), 1);
        House.same("a start that fails", x.about(1), -12);
        x = House.taken("class A { static int x = 1 / In.next(); } class Main { static void main() { try { Out.put(A.x); } catch (Error e) { } Out.put(A.x); } }");
        House.same("run", x.run(100, 100), 1);
        House.same("what never started", x.about(1), -13);
        x = House.taken("class E extends Error { } class Main { static void main() { throw new E(); } }");
        House.same("run", x.run(100, 100), 1);
        House.same("kind 0 was thrown", x.about(1), 0);
    }

    /** Promise 12: "A number comes behind those that are given (they stay from text to text): how many there are. NONE if there are 200." */
    private static void give() {
        FrontHouse x = new FrontHouse();
        String text = "class Main { static void main() { Out.put(In.next()); } }";
        for (int i = 1; i <= 199; i++) {
            x.give(i);
        }
        House.same("the 200th", x.give(Integer.MIN_VALUE), 200);
        House.same("one too many", x.give(5), -1);
        for (int i = 0; i < 3; i++) {
            House.same("judge", judge(x, text), 0);
            House.same("run", x.run(100, 100), 0);
            House.same("the first one", x.out(0, 1), 1);
            House.same("asked", x.about(6), 1);
        }
        House.same("one too many", x.give(5), -1);
    }

    /** "An object is used for at most 512 calls after it has been made": the last of them answers as the first. */
    private static void manyCalls() {
        FrontHouse x = new FrontHouse();
        int calls = 0;
        for (int i = 0; i < 85; i++) {
            for (int k = 0; k < 3; k++) {
                String part = RUNS.substring(Math.min(RUNS.length(), 20 * k), Math.min(RUNS.length(), 20 * k + 20));
                House.feed(x, part + House.times(" ", 20 - part.length()));
                calls++;
            }
            House.same("judge", x.judge(RUNS.length()), 0);
            House.same("run", x.run(50000, 20000), 0);
            House.same("out", x.out(0, 1), 7);
            calls += 3;
        }
        for (; calls < 512; calls++) {
            House.same("about", x.about(2), 3);
        }
    }

    public static void main(String[] args) {
        manyCalls();
        anew();
        feed();
        judge();
        fault();
        stays();
        run();
        mains();
        about();
        thrown();
        give();
        House.end("promises");
    }
}
