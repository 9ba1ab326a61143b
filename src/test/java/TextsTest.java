/** Promises 7 to 11 and 36: contracts, the law's text, prices, pence, paid, as if. */
public final class TextsTest {
    private static final Checks C = new Checks("TextsTest");

    public static void main(String[] args) {
        lengths();
        misplaced();
        digits();
        clauses();
        open();
        lawFaults();
        letters();
        sums();
        refused();
        refusedOften();
        lettersOfOthers();
        conditions();
        bounds();
        price();
        paid();
        asIf();
        C.end();
    }

    private static OilHome kitchens(int n) {
        OilHome x = new OilHome();
        for (int k = 0; k < n; k++) {
            x.kitchen(k, k, 10, 100);
        }
        return x;
    }

    private static void lengths() {
        OilHome x = kitchens(1);
        String long160 = "p1(" + Checks.times("1=1&", 38) + "11=11)";
        C.due("161 bytes are there", long160.length(), 161);
        Checks.feedText(x, long160);
        C.due("161 bytes", x.contract(0, 161), -1);
        C.due("0 bytes", x.contract(0, 0), -1);
        C.due("-1 bytes", x.contract(0, -1), -1);
        C.due("another kitchen", x.contract(1, 160), -1);
        C.due("kitchen -1", x.contract(-1, 160), -1);
        C.due("law 161", x.law(161), -1);
        C.due("law 0", x.law(0), -1);
        C.due("law MIN", x.law(Integer.MIN_VALUE), -1);
        C.due("the tape stays", x.count(3), 180);
        C.due("its first 160 bytes", x.contract(0, 160), -1160);
        C.due("the tape is empty", x.count(3), 0);
        C.due("160 bytes", Checks.contract(x, 0, long160.replace("11=11", "11=1")), 1);
        Checks.feedText(x, "p1(1=1)");
        C.due("more than are there", x.contract(0, 21), -1);
        C.due("the tape stays", x.count(3), 20);
        C.due("as many as are there", x.contract(0, 7), 1);
        C.due("the rest is gone", x.count(3), 0);
    }

    private static void fault(OilHome x, String text, int due) {
        C.due("contract " + text, Checks.contract(x, 0, text), due);
    }

    private static void misplaced() {
        OilHome x = kitchens(1);
        C.due("one that stands", Checks.contract(x, 0, "p7(1=1);p8(1=1)"), 2);
        String[] texts = {"q(1=1)", " p1(1=1)", "p 1(1=1)", "p(1=1)", "p1", "p1(", "p1()", "p1(1)", "p1(1=)", "p1(1=1",
            "p1(1=1))", "p1(1=1);", "p1(1=1);;", "p1(1=1);l(1=1)", "p1+(1=1)", "p+1(1=1)", "p1**2(1=1)", "p[1(1=1)",
            "p[](1=1)", "p1](1=1)", "p(1)(1=1)", "p1(1<=1)", "p1(1=1=1)", "p1(1=1&)", "p1(1=1|)", "p1(&1=1)",
            "p1(1=1&&1=1)", "p1(!)", "p1(1!=1)", "p1(!1=!1)", "p1((1)=1)", "p1((1=1)", "p1((1=1)=1)", "p1(1=1)p1(1=1)",
            "p1(1=1)&(1=1)", "p1[1](1=1)", "p1q(1=1)", "pq1(1=1)", "pqf(1=1)", "p1(p=1)", "p1(l=1)", "p1(Q=1)",
            "p-1(1=1)", "p1([1=1])", "p1(1=1]", "p1(1=(1))", "p!1(1=1)", "p1;p2(1=1)", "p1(1=1|(1=1)", "p1(\u00ff=1)",
            "p1(1=[1)", "p1(!(1=1)!)", "p1(1+=1)", "p1(1=1;1=1)", "p1(,)", "pe(1=1)", "p1(1=1)1",
            "p1(1[1])", "p1(qf)", "p1(1=1 )", "p1(2(1=1))"};
        int[] places = {0, 0, 1, 1, 2, 3, 3, 4, 5, 6, 7, 8, 8, 8, 3, 1, 3, 3, 2, 2, 1, 5, 6, 7, 7, 3, 7, 4, 4, 6, 5, 8, 8,
            7, 7, 2, 2, 2, 2, 3, 3, 3, 1, 5, 6, 5, 1, 2, 12, 3, 7, 9, 5, 6, 3, 1, 7, 4, 4, 6, 4};
        C.due("as many places", places.length, texts.length);
        for (int i = 0; i < texts.length; i++) {
            fault(x, texts[i], -1000 - places[i]);
        }
        C.due("the text before stays", x.count(10), 2);
        x.fetch(0, 0, 5, 0, 0, 0);
        C.due("and is what is paid by", x.pence(0), 7);
    }

    private static void digits() {
        OilHome x = kitchens(1);
        fault(x, "p123456(1=1)", 1);
        fault(x, "p1234567(1=1)", -2007);
        fault(x, "p000000(1=1)", 1);
        fault(x, "p0000000(1=1)", -2007);
        fault(x, "p1(1=1234567", -2011);
        fault(x, "p1(1=12345678", -2011);
        fault(x, "p1(123456=1234567)", -2016);
        fault(x, "p1(1=1&1234567=1)", -2013);
        fault(x, "p1(1=1)1234567", -1007);
    }

    private static void clauses() {
        OilHome x = kitchens(1);
        String twelve = "p1(1=1)" + Checks.times(";p1(1=1)", 11);
        fault(x, twelve, 12);
        C.due("clauses", x.count(10), 12);
        fault(x, twelve + ";p", -4096);
        fault(x, twelve + ";p1(1=1)", -4096);
        fault(x, twelve + ";", -1096);
        fault(x, twelve + ";l", -1096);
        fault(x, twelve + ";;", -1096);
        fault(x, "q" + twelve + ";p", -1000);
        String law = "l(1=1)" + Checks.times(";l(1=1)", 11);
        C.due("a law of 12", Checks.law(x, law), 12);
        C.due("a law of 13", Checks.law(x, law + ";l(1=1)"), -4084);
        C.due("a law with a p", Checks.law(x, law + ";p"), -1084);
        C.due("clauses of the law", x.count(4), 12);
    }

    private static void open() {
        OilHome x = kitchens(1);
        fault(x, "p[[[[[[1]]]]]](1=1)", 1);
        fault(x, "p[[[[[[[1]]]]]]](1=1)", -5007);
        fault(x, "p1((((((1=1))))))", 1);
        fault(x, "p1(((((((1=1)))))))", -5008);
        fault(x, "p1(!!!!!1=1)", 1);
        fault(x, "p1(!!!!!!1=1)", -5008);
        fault(x, "p1([[[[[1]]]]]=1)", 1);
        fault(x, "p1([[[[[[1]]]]]]=1)", -5008);
        fault(x, "p1(!(!([1]=1)))", 1);
        fault(x, "p1(!(!([[1]]=1)))", -5008);
        fault(x, "p1(!(!(1=[[1]])))", -5010);
        fault(x, "p1(!!!!!1=1&!!!!!1=1|!!!!!1=1)", 1);
        fault(x, "p1(!!!!!1=1&!!!!!!1=1)", -5017);
        fault(x, "p1(!!!!(1=1)&[[[[[1]]]]]=1)", 1);
        fault(x, "p1((1=1)&(1=1)&(1=1)&(1=1)&(1=1)&(1=1)&(1=1))", 1);
        fault(x, "p[1]+[1]+[1]+[1]+[1]+[1]+[1](1=1)", 1);
        fault(x, "p1(!!!!!1=[1])", -5010);
        fault(x, "p1((((((1=(1))))))", -1010);
        fault(x, "p[[[[[[(1]]]]]](1=1)", -1007);
        fault(x, "p1((((((]", -1008);
        fault(x, "p[[[[[[1]]]]]](((((1=1)))))", 1);
    }

    private static void lawFaults() {
        OilHome x = kitchens(1);
        C.due("law", Checks.law(x, "l(q>0)"), 1);
        String[] texts = {"l", "l1(q>0)", "p1(q>0)", "l(q>0)l(q>0)", "l(1234567>q)", "l(((((((q>0)))))))", "L(q>0)", "l(x>0)"};
        int[] due = {-1001, -1001, -1000, -1006, -2008, -5007, -1000, -1002};
        for (int i = 0; i < texts.length; i++) {
            C.due("law " + texts[i], Checks.law(x, texts[i]), due[i]);
        }
        C.due("clauses", x.count(4), 1);
        C.due("another law", Checks.law(x, "l(q>0);l(k=0&m=0&s=0)"), 2);
        C.due("clauses", x.count(4), 2);
    }

    /** Two kitchens with loads of their own; the pence of load i by a text. */
    private static int pence(String text, int i) {
        OilHome x = kitchens(3);
        x.now(30);
        x.price(3, 44);
        x.price(2, 33);
        x.fetch(2, 9, 61, 100, 200, 300);
        x.fetch(1, 9, 5, 1, 1, 9);
        x.fetch(2, 25, 40, 1000, 7, 300);
        C.due("contract " + text, Checks.contract(x, 2, text) > 0 ? 1 : 0, 1);
        return x.pence(i);
    }

    private static void pays(String text, int due) {
        C.due("pence by " + text, pence(text, 2), due);
    }

    private static void letters() {
        String[] signs = {"q", "f", "a", "d", "w", "g", "k", "m", "s", "o", "n"};
        int[] due = {40, 1000, 7, 25, 3, 4, 2, 50, 61, 44, 0};
        int[] dueFirst = {61, 100, 200, 9, 1, 2, 2, 20, 0, 0, 0};
        for (int i = 0; i < signs.length; i++) {
            pays("p" + signs[i] + "(1=1)", due[i]);
            C.due("pence of load 0 by " + signs[i], pence("p" + signs[i] + "(1=1)", 0), dueFirst[i]);
        }
        C.due("of a kitchen without a contract", pence("p9(1=1)", 1), 0);
        C.due("of no load", pence("p9(1=1)", 3), -1);
        C.due("of load -1", pence("p9(1=1)", -1), -1);
    }

    private static void sums() {
        pays("p2+3*4(1=1)", 14);
        pays("p[2+3]*4(1=1)", 20);
        pays("p20-3-4(1=1)", 13);
        pays("p20-[3-4](1=1)", 21);
        pays("p100/7/2(1=1)", 7);
        pays("p100/[7/2](1=1)", 33);
        pays("p100%7*3(1=1)", 6);
        pays("p100*7%3(1=1)", 1);
        pays("p7-10+5(1=1)", 2);
        pays("p[3-10]/2+9(1=1)", 6);
        pays("p[3-10]%4+9(1=1)", 6);
        pays("p999999*999999(1=1)", 0);
        pays("p999999*999999/[0-10000](1=1)", 72937);
        pays("p65536*65536+7(1=1)", 7);
        pays("p65536*32768/[0-1]/65536+32770(1=1)", 2);
        pays("p65536*32768%[0-1]+6(1=1)", 6);
        pays("p65536*32768-1-65536*32767(1=1)", 65535);
        pays("p2*[3+4*[5-2]]-1(1=1)", 29);
        pays("p00012(1=1)", 12);
        pays("p1-[2-[3-[4-[5-[6-[7]]]]]](1=1)", 4);
        pays("p10-[2-[3-[4-[5-[6-[7]]]]]](1=1)", 13);
    }

    private static void refused() {
        pays("p1/0(1=1)", 0);
        pays("p5+1%n(1=1)", 0);
        pays("p1/0(1=1);p9(1=1)", 0);
        pays("p5*[0/n](1=1);p9(1=1)", 0);
        pays("p5(1/0=0);p9(1=1)", 9);
        pays("p5(!1/0=0);p9(1=1)", 9);
        pays("p5(!(1/0=0));p9(1=1)", 9);
        pays("p5(1/0=0|1=1);p9(1=1)", 9);
        pays("p5((1/0=0)|1=1);p9(1=1)", 9);
        pays("p5(1=1|1/0=0);p9(1=1)", 5);
        pays("p5(1=2&1/0=0|1=1);p9(1=1)", 5);
        pays("p5(!(1=2&1/0=0));p9(1=1)", 5);
        pays("p5(!(1=1&1/0=0));p9(1=1)", 9);
        pays("p5((1=1|1%0=0)&1=1);p9(1=1)", 5);
        pays("p5(1=1&(1=2|1%0=0)|1=1);p9(1=1)", 9);
        pays("p5(1=1&1=1|1/0=0);p9(1=1)", 5);
        pays("p5(1=1&(1=1|1/0=1));p1/0(1=1)", 5);
    }

    /** What waited when a sum was refused must not stay for the next. */
    private static void refusedOften() {
        OilHome x = kitchens(1);
        x.fetch(0, 0, 1, 0, 0, 0);
        Checks.contract(x, 0, "p1+2*[3+4*[o/o]](1=1)");
        for (int i = 0; i < 60; i++) {
            C.due("refused", x.pence(0), 0);
        }
        x.price(0, 5);
        C.due("not any more", x.pence(0), 1 + 2 * 7);
    }

    /** The letters of a load are none of the next batch's, and the other way about. */
    private static void lettersOfOthers() {
        OilHome x = kitchens(2);
        x.now(20);
        x.fetch(1, 9, 5, 0, 0, 9);
        x.fetch(1, 18, 5, 0, 0, 18);
        Checks.contract(x, 1, "pn+k*2(m>0&s>0)");
        Checks.law(x, "l(k=0);l(m=0);l(s=0);l(n=2)");
        C.due("a load", x.pence(1), 2);
        C.due("a batch", x.batch(1), -13);
        C.due("a load", x.pence(1), 2);
        C.due("a batch", x.batch(3), 0);
        C.due("a load", x.pence(1), 2);
    }

    private static void conditions() {
        pays("p5(!2>1);p9(1=1)", 9);
        pays("p5(!1<2);p9(1=1)", 9);
        pays("p5(1<2);p9(1=1)", 5);
        pays("p5(2<2);p9(1=1)", 9);
        pays("p5(2>1);p9(1=1)", 5);
        pays("p5(2>2);p9(1=1)", 9);
        pays("p5(2=2);p9(1=1)", 5);
        pays("p5(0-1<0);p9(1=1)", 5);
        pays("p5(!2=2);p9(1=1)", 9);
        pays("p5(!!2=2);p9(1=1)", 5);
        pays("p5(!1=1|1=1);p9(1=1)", 5);
        pays("p5(!(1=1|1=1));p9(1=1)", 9);
        pays("p5(!1=2&1=2);p9(1=1)", 9);
        pays("p5(1=1|1=1&1=2);p9(1=1)", 5);
        pays("p5((1=1|1=1)&1=2);p9(1=1)", 9);
        pays("p5(1=2&1=1|1=2&1=1|1=1);p9(1=1)", 5);
        pays("p5(1=1&1=1&1=2);p9(1=1)", 9);
        pays("p5(1=2|1=2|1=2);p9(1=1)", 9);
        pays("p5(1=2);p9(1=3)", 0);
        pays("p5(1=2);p9(1=3);p4(q=40);p6(1=1)", 4);
        pays("p5([1+2]*3=9);p9(1=1)", 5);
    }

    private static void bounds() {
        pays("p100000(1=1)", 100000);
        pays("p100001(1=1)", 100000);
        pays("p99999(1=1)", 99999);
        pays("p0-1(1=1)", 0);
        pays("p0-999999*1000(1=1)", 0);
        pays("p65536*32768(1=1)", 0);
        pays("p65536*32767(1=1)", 100000);
    }

    private static void price() {
        OilHome x = kitchens(1);
        C.no("week -1", x.price(-1, 0));
        C.no("week 58", x.price(58, 0));
        C.no("pence -1", x.price(0, -1));
        C.no("pence 1001", x.price(0, 1001));
        C.yes("week 57", x.price(57, 1000));
        x.now(399);
        x.fetch(0, 6, 1, 0, 0, 6);
        x.fetch(0, 7, 1, 0, 0, 7);
        x.fetch(0, 399, 1, 0, 0, 399);
        Checks.contract(x, 0, "po(1=1)");
        C.due("in week 57", x.pence(2), 1000);
        C.due("0 at first", x.pence(0), 0);
        C.yes("week 0", x.price(0, 3));
        C.due("up to day 6", x.pence(0), 3);
        C.due("from day 7", x.pence(1), 0);
        C.yes("week 0 anew", x.price(0, 4));
        C.due("as it is now", x.pence(0), 4);
        C.no("refused", x.price(0, 5000));
        C.due("stays", x.pence(0), 4);
        C.yes("to nothing", x.price(0, 0));
        C.due("nothing", x.pence(0), 0);
    }

    private static void paid() {
        OilHome x = kitchens(2);
        x.now(50);
        x.fetch(0, 3, 10, 0, 0, 20);
        x.fetch(1, 3, 10, 0, 0, 3);
        x.fetch(0, 8, 20, 0, 0, 10);
        x.fetch(0, 10, 5, 0, 0, 10);
        Checks.contract(x, 0, "ps*100+q(1=1)");
        C.due("on 9", x.paid(0, 9), 0);
        C.due("on 10", x.paid(0, 10), 1020 + 3005);
        C.due("on 19", x.paid(0, 19), 4025);
        C.due("on 20", x.paid(0, 20), 4035);
        C.due("on 399", x.paid(0, 399), 4035);
        C.due("day 400", x.paid(0, 400), -1);
        C.due("day -1", x.paid(0, -1), -1);
        C.due("kitchen 2", x.paid(2, 0), -1);
        C.due("kitchen -1", x.paid(-1, 0), -1);
        C.due("no contract", x.paid(1, 399), 0);
        Checks.contract(x, 0, "pm(1=1)");
        C.due("missing by loads that were not known", x.paid(0, 10), 25 + 13);
    }

    private static void asIf() {
        OilHome x = kitchens(3);
        x.now(50);
        x.fetch(0, 3, 10, 0, 0, 20);
        x.fetch(1, 3, 30, 0, 0, 399);
        x.fetch(0, 8, 20, 0, 0, 10);
        Checks.contract(x, 1, "pq*10+k(1=1)");
        Checks.contract(x, 2, "pk(q>10)");
        C.due("0 by 1", x.asIf(0, 1), 300);
        C.due("1 by 1", x.asIf(1, 1), 301);
        C.due("1 by 2: its own k", x.asIf(1, 2), 1);
        C.due("1 by 0: none", x.asIf(1, 0), 0);
        C.due("2 by 1: no loads", x.asIf(2, 1), 0);
        C.due("3 by 1", x.asIf(3, 1), -1);
        C.due("1 by 3", x.asIf(1, 3), -1);
        C.due("-1 by 1", x.asIf(-1, 1), -1);
        C.due("1 by -1", x.asIf(1, -1), -1);
        C.due("its own stays", x.pence(0), 0);
    }
}
