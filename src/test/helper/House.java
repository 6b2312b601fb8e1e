/** What all tests of the project need: texts are fed, judged and compared with what is due. */
final class House {
    private static int wrong = 0;
    private static int many = 0;

    private House() {
    }

    /** The bytes go on the tape twenty by twenty; the last ones are filled up with 0. */
    static void feed(FrontHouse x, String text) {
        int[] w = new int[5];
        for (int i = 0; i < text.length(); i += 20) {
            for (int b = 0; b < 20; b++) {
                int at = i + b;
                w[b / 4] = w[b / 4] << 8 | (at < text.length() ? text.charAt(at) & 255 : 0);
            }
            x.feed(w[0], w[1], w[2], w[3], w[4]);
        }
    }

    static FrontHouse judged(String text) {
        FrontHouse x = new FrontHouse();
        feed(x, text);
        x.judge(text.length());
        return x;
    }

    /** A text that must be taken. */
    static FrontHouse taken(String text) {
        FrontHouse x = judged(text);
        if (x.fault(0) != 0) {
            tell(text + "\n   is " + x.fault(0) + " at " + x.fault(1) + ", but must be taken");
        }
        many++;
        return x;
    }

    private static void tell(String what) {
        wrong++;
        System.out.println(what);
    }

    static void same(String what, long got, long want) {
        many++;
        if (got != want) {
            tell(what + " answered " + got + ", due is " + want);
        }
    }

    static void same(String what, String got, String want) {
        many++;
        if (!got.equals(want)) {
            tell(what + "\n   got " + got + "\n   due " + want);
        }
    }

    /** A text and its fault; ` stands where the fault's place is (it is no part of the text). */
    static void due(int fault, String marked) {
        int place = marked.indexOf('`');
        String text = place < 0 ? marked : marked.substring(0, place) + marked.substring(place + 1);
        place(fault, fault == 0 ? -1 : place, text);
    }

    static void place(int fault, int place, String text) {
        many++;
        FrontHouse x = new FrontHouse();
        feed(x, text);
        int got = x.judge(text.length());
        if (got != fault || x.fault(0) != fault || x.fault(1) != place) {
            tell(text + "\n   is " + got + " at " + x.fault(1) + ", due is " + fault + " at " + place);
        }
    }

    static void fine(String text) {
        due(0, text);
    }

    /** Statements in a static method of a class with some members. */
    static void body(int fault, String s) {
        due(fault, "class A { static int n; static int f(int x) { return x; } static void g() { " + s + " } }");
    }

    /** Statements in a method of an object. */
    static void object(int fault, String s) {
        due(fault, "class A { int n; int f(int x) { return x; } void g() { " + s + " } }");
    }

    static String times(String s, int n) {
        StringBuilder b = new StringBuilder();
        for (int i = 0; i < n; i++) {
            b.append(s);
        }
        return b.toString();
    }

    /** n names with a number each, with the same text between them. */
    static String row(String ahead, String behind, String between, int n) {
        StringBuilder b = new StringBuilder();
        for (int i = 0; i < n; i++) {
            b.append(i == 0 ? "" : between).append(ahead).append(i).append(behind);
        }
        return b.toString();
    }

    static void end(String what) {
        if (wrong > 0) {
            System.out.println(wrong + " of " + many + " are not as due: " + what);
            System.exit(1);
        }
        System.out.println(many + " are as due: " + what);
    }
}
