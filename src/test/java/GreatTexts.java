/** Texts that need much room or many steps: what is due of each is known by how it is made. */
public final class GreatTexts {
    private static String times(String s, int n) {
        return House.times(s, n);
    }

    private static FrontHouse judge(String name, String text, int fault, int place) {
        FrontHouse x = House.judged(text);
        House.same("fault of " + name, x.fault(0), fault);
        House.same("place of " + name, x.fault(1), place);
        return x;
    }

    private static void due(String name, long got, long want) {
        House.same(name, got, want);
    }

    /** A line of parents below A0, each with the type argument that is told by one of its var, T. */
    private static String line(String head, int n, String arg) {
        StringBuilder b = new StringBuilder(head);
        for (int i = 1; i <= n; i++) {
            b.append("class A" + i + "<T>extends A" + (i - 1) + "<" + arg + ">{}");
        }
        return b.toString();
    }

    /** f goes up the whole line, so each .f makes its type deeper by all the line's arguments. */
    private static void deepTypes() {
        String p = times("P<", 18) + "T" + times(">", 18);
        String lines = line("class P<T>{}class A0<T>{A10<T>f;}", 10, p);
        StringBuilder b = new StringBuilder(lines + "class M{void m(");
        String[] of = {"Byte", "Long", "Short", "In", "Out", "Error"};
        for (int i = 0; i < 6; i++) {
            b.append((i > 0 ? "," : "") + "A10<" + of[i] + ">a" + i);
        }
        b.append("){Object o;");
        for (int i = 0; i < 6; i++) {
            b.append("o=a" + i + times(".f", 38) + ";");
        }
        judge("deep types", b + "}}", 0, -1);
        String last = b + "a0" + times(".f", 30) + "=a0" + times(".f", 30) + ";";
        judge("deep types that are one", last + "}}", 0, -1);
        String other = b + "a0" + times(".f", 30) + "=a1" + times(".f", 30) + ";";
        judge("deep types that are two", other + "}}", 41, other.lastIndexOf("f;"));
    }

    private static void wideTypes() {
        String lines = line("class P<A,B,C,D>{}class Q<A,B,C,D>{}class A0<T>{A20<T>f;}", 20, "P<T,T,T,T>");
        String text = lines + "class M{void m(A20<Byte>a,A20<Long>b,A0<Object>c){Object o=a" + times(".f", 20) + ";a=a;";
        judge("wide types", text + "}}", 0, -1);
        judge("wide types that are two", text + "a=b;}}", 41, text.length() + 2);
        judge("a cast that nothing says", text + "a=(A20<Byte>)c;}}", 52, text.length() + 2);
        String two = "class P<A,B>{}class A0<T>{}" + "class A1<T,U>extends A0<P<T,T>>{}" + "class A2<T,U>extends A1<P<T,T>,U>{}"
            + "class A3<T,U>extends A2<P<T,T>,U>{}class A4<T,U>extends A3<P<T,T>,U>{}class A5<T,U>extends A4<P<T,T>,U>{}"
            + "class A6<T,U>extends A5<P<T,T>,U>{}class A7<T,U>extends A6<P<T,T>,U>{}class A8<T,U>extends A7<P<T,T>,U>{}"
            + "class A9<T,U>extends A8<P<T,T>,U>{}class B0<T,U>extends A9<P<T,T>,U>{}class B1<T,U>extends B0<P<T,T>,U>{}"
            + "class B2<T,U>extends B1<P<T,T>,U>{}class B3<T,U>extends B2<P<T,T>,U>{}class B4<T,U>extends B3<P<T,T>,U>{}"
            + "class B5<T,U>extends B4<P<T,T>,U>{}class B6<T,U>extends B5<P<T,T>,U>{}class B7<T,U>extends B6<P<T,T>,U>{}"
            + "class B8<T,U>extends B7<P<T,T>,U>{}class B9<T,U>extends B8<P<T,T>,U>{}class C0<T,U>extends B9<P<T,T>,U>{}"
            + "class C1<T,U>extends C0<P<T,T>,U>{}class M<X,Y>{C1<X,Y>m(B9<P<P<X,X>,P<X,X>>,Y>a){return(C1<X,Y>)a;}}";
        FrontHouse x = judge("a cast that all is said of", two, 0, -1);
        due("unchecked", x.count(5), 0);
        String lost = two.substring(0, two.indexOf("class M<")) + "class M<X,Y>{C1<X,Y>m(Object a){return(C1<X,Y>)a;}}";
        due("unchecked", judge("a cast of an Object", lost, 0, -1).count(5), 1);
    }

    private static void greatArrays() {
        String lines = line("class A0<T>{A9<T>f;T g;int n(T...a){return a.length;}}", 9, "T[][][][]");
        String text = lines + "class Main{static A9<Byte>a=new A9<Byte>();static void main(){a.f=null;Out.put(a.n(a.g,null));"
            + "Object o=a.g;Out.put(o==null);Byte[][]b=new Byte[1][2];Out.put(b[0]);Out.put(a.n());a.n(a.g)";
        FrontHouse x = judge("arrays of arrays", text + ";}}", 0, -1);
        due("run", x.run(1000, 1000), 0);
        due("length", x.out(0, 1), 2);
        due("null", x.out(1, 1), 1);
        due("array", x.out(2, 1), 99);
        due("length", x.out(3, 1), 0);
        String deep = lines + "class M{void m(A9<Byte>a){Object o=a" + times(".f", 38) + ".g;boolean b=a" + times(".f", 36)
            + ".g==a" + times(".f", 36) + ".g;";
        judge("elements that can't go", deep + "a.g=a.f.g;}}", 41, deep.length() + 8);
        judge("arrays that can't be alike", deep + "b=a.f.g==a.g;}}", 52, deep.length() + 7);
        judge("arrays that can", deep + "b=a.f.f.g==a.f.f.g;b=o==a.f.g;}}", 0, -1);
        deep = deep.substring(0, deep.indexOf(";boolean"));
        x = judge("an array of many [ ]", deep + ";}}", 0, -1);
        int seen = 0;
        for (int i = 0; i < x.count(3); i++) {
            seen = Math.max(seen, x.expression(i, 1) == 10 ? x.expression(i, 4) : 0);
        }
        due("[ ]", seen, 39 * 36);
    }

    private static void manyThrown() {
        StringBuilder b = new StringBuilder();
        String names = "abcdefghijklmnopqr";
        for (int i = 0; i < 18; i++) {
            b.append("class " + names.charAt(i) + " extends Exception{}");
        }
        b.append("class M<X extends Exception>{static void A()throws a,b,c,d,e,f{}static void B()throws g,h,i,j,k,l{}static void C()throws m,n,o,p,q,r{}");
        b.append("void D()throws X{}void m(){");
        String nest = times("try{", 10) + "A();B();C();D();" + times("}finally{}", 9) + "}catch(Exception x){}";
        b.append(times(nest, 13) + "try{A();}catch(a x){throw x;}catch(Exception x){}");
        int place = b.indexOf("throw x");
        judge("thrown again", b + "}}", 63, place);
        String var = "class M<X extends Exception>{void D()throws X{}<Y extends Exception>void m(M<Y>e)throws Y{try{e.D();}catch(Exception x){throw x;}";
        judge("a var thrown again", var + "}}", 0, -1);
        judge("a var of the kind thrown again", var + "try{D();}catch(Exception x){throw x;}}}", 63, (var + "try{D();}catch(Exception x){").length());
    }

    /** Loops in loops, in each of which something is assigned that no way back goes through. */
    private static void deepLoops() {
        StringBuilder b = new StringBuilder("class A{void m(boolean b){int ");
        for (int i = 0; i < 10; i++) {
            b.append((i > 0 ? ",x" : "x") + i);
        }
        b.append(";");
        for (int i = 0; i < 9; i++) {
            b.append("while(b){if(b){x" + i + "=1;continue;}");
        }
        b.append("x9=1;" + times("break;}", 9));
        judge("loops in loops", b + "}}", 0, -1);
        judge("loops in loops", b + "x9++;}}", 61, b.length());
    }

    /** One interface by very many lists: each that a way leads to counts. */
    private static void manyWays() {
        StringBuilder b = new StringBuilder("interface I0<T>{}class P<T>{}class Q<T>{}interface I1<T>extends I0<P<T>>{}");
        for (int i = 2; i < 17; i++) {
            b.append("interface I" + i + "<T>extends I" + (i - 1) + "<P<T>>,I" + (i - 2) + "<Q<T>>{}");
        }
        String way = "I0<" + times("Q<P<", 4) + times("Q<", 2) + "Byte" + times(">", 10) + ">";
        String none = "I0<" + times("Q<P<", 4) + times("Q<", 3) + "Byte" + times(">", 11) + ">";
        String tail = "class D{B<C>x;}class C implements I16<Byte>{}";
        String text = b + "class B<T extends " + way + ">{}" + tail;
        judge("a way among many", text, 37, text.indexOf("I2<T>"));
        text = b + "class B<T extends " + none + ">{}" + tail;
        judge("no way among many", text, 32, text.indexOf("C>x"));
    }

    /** Elements that need many words of code each. */
    private static void longCode() {
        StringBuilder b = new StringBuilder("class P<T>{T a;}class Main extends P<Integer>{static int s=0;static void main(){Main x=new Main();x.a=0;x.m();"
            + "Out.put(s);Out.put(x.a);}void m(){int[][]r={");
        for (int i = 0; i < 16; i++) {
            b.append("{" + times("a++,", 40) + "},");
        }
        b.append("};for(int[]q:r)for(int v:q)s+=v;}}");
        FrontHouse x = judge("long code", b.toString(), 0, -1);
        due("run", x.run(50000, 20000), 0);
        due("sum", x.out(0, 1), 640 * 639 / 2);
        due("last", x.out(1, 1), 82);
    }

    private static void manyReturns() {
        StringBuilder b = new StringBuilder("class Main{static int n;static void main(){m(9999);Out.put(n);}static void m(int a){");
        b.append(times("try{", 10));
        for (int i = 0; i < 150; i++) {
            b.append("if(a<1)return;");
        }
        b.append("if(a>5)return;" + times("}finally{n++;}", 10) + "}}");
        FrontHouse x = judge("many returns", b.toString(), 0, -1);
        due("run", x.run(50000, 20000), 0);
        due("finally", x.out(0, 1), 10);
    }

    public static void main(String[] args) {
        deepTypes();
        wideTypes();
        greatArrays();
        manyThrown();
        deepLoops();
        manyWays();
        longCode();
        manyReturns();
        House.end("great texts");
    }
}
