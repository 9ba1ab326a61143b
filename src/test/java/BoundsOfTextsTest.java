/** Each sentence that names a boundary: section 2 of the terms, promises 7 to 11 and 36. */
public final class BoundsOfTextsTest {
    private static final Checks C = new Checks("BoundsOfTextsTest");
    private static final String ALL_KINDS = "p1+[q](!(1=1)|q<f&a>2);p2(1=1)";

    public static void main(String[] args) {
        textHasOneToAHundredAndSixtyBytes();
        textIsNotLongerThanTheTape();
        textIsOfAKitchen();
        tapeIsEmptyThen();
        tapeStaysWhereItIsNone();
        textTakesThePlaceOfTheOneBefore();
        noBlanks();
        theEndCanNotStandThere();
        nothingElseCanStandThere();
        lawHasNoE();
        clausesAreTwelve();
        clausesBetweenTwo();
        numbersHaveOneToSixDigits();
        openAreSix();
        openInOneAnotherOnly();
        openWhereItCanStand();
        faultsAreTheFirstFromTheLeft();
        penceAreOfALoad();
        penceAreNotBelowZeroNorAbove();
        penceOfTheFirstThatHolds();
        noContractNoPence();
        lettersOfALoad();
        lettersAtTheEndsOfTheYear();
        lettersThatAreNone();
        sumsWrapRound();
        productsWrapRound();
        quotientsAreTheMachines();
        leftOn();
        dividedByNothing();
        refusedLeavesNothing();
        refusedThroughAll();
        asMuchAsMatters();
        relations();
        partsAndPieces();
        priceOfWeeks();
        priceIsOfItsWeek();
        paidIsOfAKitchenAndADay();
        paidByWhatWasKnown();
        asIfIsOfTwoKitchens();
        C.end();
    }

    private static OilHome fed(String text) {
        OilHome x = Firms.kitchens(2);
        Checks.feedText(x, text);
        return x;
    }

    private static void fault(String text, int due) {
        OilHome x = Firms.kitchens(1);
        C.due("contract " + text, Checks.contract(x, 0, text), due);
        C.due("the tape is empty behind " + text, x.count(3), 0);
    }

    private static void lawFault(String text, int due) {
        OilHome x = new OilHome();
        C.due("law " + text, Checks.law(x, text), due);
        C.due("the tape is empty behind " + text, x.count(3), 0);
    }

    // ---- how long, of whom, and the tape

    private static void textHasOneToAHundredAndSixtyBytes() {
        String long159 = "p1(" + Checks.times("1=1&", 38) + "1=1)";
        String law160 = "l(" + Checks.times("1=1&", 38) + "11=11)";
        C.due("bytes", long159.length(), 159);
        C.due("bytes of the law", law160.length(), 160);
        C.due("159 bytes", fed(long159).contract(0, 159), 1);
        C.due("160 bytes", fed("p11" + long159.substring(2)).contract(0, 160), 1);
        C.due("161 bytes", fed("p111" + long159.substring(2)).contract(0, 161), -1);
        C.due("160 of 161 bytes", fed("p111" + long159.substring(2)).contract(0, 160), -1160);
        C.due("1 byte", fed(long159).contract(0, 1), -1001);
        C.due("0 bytes", fed(long159).contract(0, 0), -1);
        C.due("a law of 160 bytes", fed(law160).law(160), 1);
        C.due("a law of 161 bytes", fed(law160).law(161), -1);
        C.due("a law of 1 byte", fed(law160).law(1), -1001);
        C.due("a law of 0 bytes", fed(law160).law(0), -1);
        for (int n : new int[] {-1, -160, Integer.MIN_VALUE, Integer.MAX_VALUE, 200, 181}) {
            C.due("contract of " + n + " bytes", fed(long159).contract(0, n), -1);
            C.due("law of " + n + " bytes", fed(long159).law(n), -1);
        }
    }

    private static void textIsNotLongerThanTheTape() {
        String twenty = "p1(1=1&1=1&1=1&1=11)";
        C.due("as many as are there", fed(twenty).contract(0, 20), 1);
        C.due("one more", fed(twenty).contract(0, 21), -1);
        C.due("law: as many as are there", fed("l(1=1&1=1&1=1&1=111)").law(20), 1);
        C.due("law: one more", fed("l(1=1&1=1&1=1&1=111)").law(21), -1);
        C.due("of nothing", Firms.kitchens(1).contract(0, 1), -1);
        C.due("law of nothing", new OilHome().law(1), -1);
        C.due("fewer than are there", fed(twenty + "p2(1=1)").contract(0, 20), 1);
    }

    private static void textIsOfAKitchen() {
        C.bounds("contract of", 0, 1, 1, -1, k -> fed("p1(1=1)").contract(k, 7));
        C.due("no kitchens", new OilHome().contract(0, 1), -1);
        OilHome x = fed("p1(1=1);p2(1=1)");
        x.contract(1, 15);
        C.due("not of another", x.count(10), 0);
        C.due("its own", x.count(11), 2);
    }

    private static void tapeIsEmptyThen() {
        OilHome x = fed("p1(1=1)" + Checks.times("9", 40));
        C.due("contract", x.contract(0, 7), 1);
        C.due("all of it", x.count(3), 0);
        Checks.feedText(x, "l(1=1)" + Checks.times("9", 40));
        C.due("law", x.law(6), 1);
        C.due("all of it", x.count(3), 0);
        Checks.feedText(x, "p1(1=1" + Checks.times("9", 40));
        C.due("a fault", x.contract(0, 6), -1006);
        C.due("all of it", x.count(3), 0);
        Checks.feedText(x, "l(1=1" + Checks.times("9", 40));
        C.due("a fault", x.law(5), -1005);
        C.due("all of it", x.count(3), 0);
    }

    private static void tapeStaysWhereItIsNone() {
        OilHome x = fed("p1(1=1);p2(1=1)l(1=1)");
        C.due("kitchen 2", x.contract(2, 15), -1);
        C.due("kitchen -1", x.contract(-1, 15), -1);
        C.due("0 bytes", x.contract(0, 0), -1);
        C.due("41 bytes", x.contract(0, 41), -1);
        C.due("161 bytes", x.contract(0, 161), -1);
        C.due("law of 0 bytes", x.law(0), -1);
        C.due("law of 41 bytes", x.law(41), -1);
        C.due("law of 161 bytes", x.law(161), -1);
        C.due("the tape stays", x.count(3), 40);
        C.due("and what is on it", x.contract(0, 15), 2);
    }

    private static void textTakesThePlaceOfTheOneBefore() {
        OilHome x = Firms.loads(5);
        C.due("two", Checks.contract(x, 0, "p7(1=1);p8(1=1)"), 2);
        C.due("a fault", Checks.contract(x, 0, "p9(1=1);p9(1=1);p9(1=1"), -1022);
        C.due("stays", x.count(10), 2);
        C.due("stays", x.pence(0), 7);
        C.due("none", x.contract(0, 1), -1);
        C.due("stays", x.pence(0), 7);
        C.due("another", Checks.contract(x, 0, "p9(1=2)"), 1);
        C.due("in place of both", x.count(10), 1);
        C.due("in place of both", x.pence(0), 0);
        C.due("law", Checks.law(x, "l(1=1);l(1=2)"), 2);
        C.due("a fault", Checks.law(x, "l(1=1);l(1=1"), -1012);
        C.due("stays", x.count(4), 2);
        C.due("stays", x.batch(1), -11);
        C.due("none", x.law(1), -1);
        C.due("stays", x.batch(1), -11);
        C.due("another", Checks.law(x, "l(1=1)"), 1);
        C.due("in place of both", x.count(4), 1);
        C.due("in place of both", x.batch(1), 0);
    }

    // ---- faults

    private static void noBlanks() {
        fault(ALL_KINDS, 2);
        for (int i = 0; i <= ALL_KINDS.length(); i++) {
            fault(ALL_KINDS.substring(0, i) + " " + ALL_KINDS.substring(i), -1000 - i);
        }
        fault("p1 2(1=1)", -1002);
        lawFault(" l(1=1)", -1000);
        lawFault("l (1=1)", -1001);
        lawFault("l(1=1) ", -1006);
    }

    private static void theEndCanNotStandThere() {
        for (int i = 1; i < ALL_KINDS.length(); i++) {
            boolean whole = ALL_KINDS.charAt(i) == ';';
            fault(ALL_KINDS.substring(0, i), whole ? 1 : -1000 - i);
        }
        String law = "l(!(1=1)|[q]<f&a>2);l(1=1)";
        lawFault(law, 2);
        for (int i = 1; i < law.length(); i++) {
            lawFault(law.substring(0, i), law.charAt(i) == ';' ? 1 : -1000 - i);
        }
    }

    /** At each place of a text each sign but those that the document lets stand there. */
    private static void nothingElseCanStandThere() {
        String text = "p1+q(!1=1)";
        String factor = "0123456789qfadwgkmson[";
        String[] allowed = {"p", factor, "0123456789+-*/%(", factor, "+-*/%(", factor + "(!", factor + "(!",
            "0123456789+-*/%<>=", factor, "0123456789+-*/%&|)"};
        for (int i = 0; i < text.length(); i++) {
            for (char sign = 0; sign < 256; sign++) {
                String other = text.substring(0, i) + sign + text.substring(i + 1);
                int answer = Checks.contract(Firms.kitchens(1), 0, other);
                boolean stands = allowed[i].indexOf(sign) >= 0;
                C.due("sign " + (int) sign + " at " + i, answer == -1000 - i ? 0 : 1, stands ? 1 : 0);
            }
        }
        for (char sign = 0; sign < 256; sign++) {
            int answer = Checks.contract(Firms.kitchens(1), 0, text + sign);
            C.due("sign " + (int) sign + " behind", answer, sign == ';' ? -1011 : -1010);
        }
    }

    private static void lawHasNoE() {
        lawFault("l(1=1)", 1);
        lawFault("l1(1=1)", -1001);
        lawFault("lq(1=1)", -1001);
        lawFault("l[1](1=1)", -1001);
        lawFault("p1(1=1)", -1000);
        lawFault("L(1=1)", -1000);
        lawFault("l(1=1);p1(1=1)", -1007);
        fault("l(1=1)", -1000);
        fault("p(1=1)", -1001);
        fault("P1(1=1)", -1000);
        fault("p1(1=1);l(1=1)", -1008);
    }

    private static void clausesAreTwelve() {
        String clauses = "p1(1=1)" + Checks.times(";p1(1=1)", 10);
        fault(clauses, 11);
        String twelve = clauses + ";p1(1=1)";
        fault(twelve, 12);
        fault(twelve + ";p1(1=1)", -4096);
        fault(twelve + ";p", -4096);
        fault(twelve + ";p1(1=1);p1(1=1)", -4096);
        fault(twelve + ";p?", -4096);
        fault(twelve + ";q", -1096);
        fault(twelve + ";l", -1096);
        fault(twelve + ";", -1096);
        fault(twelve + "p", -1095);
        String law = "l(1=1)" + Checks.times(";l(1=1)", 11);
        lawFault(law, 12);
        lawFault(law + ";l(1=1)", -4084);
        lawFault(law + ";l", -4084);
        lawFault(law + ";p", -1084);
        lawFault(law + ";", -1084);
        OilHome x = Firms.loads(5);
        C.due("twelve", Checks.contract(x, 0, Checks.times("p1(1=2);", 11) + "p8(1=1)"), 12);
        C.due("the twelfth is asked", x.pence(0), 8);
        C.due("twelve", Checks.law(x, Checks.times("l(1=1);", 11) + "l(1=2)"), 12);
        C.due("the twelfth is asked", x.batch(1), -21);
    }

    private static void clausesBetweenTwo() {
        fault(";p1(1=1)", -1000);
        fault("p1(1=1);", -1008);
        fault("p1(1=1);;p1(1=1)", -1008);
        fault("p1(1=1),p1(1=1)", -1007);
        fault("p1(1=1)p1(1=1)", -1007);
        lawFault("l(1=1);", -1007);
        lawFault("l(1=1)l(1=1)", -1006);
    }

    private static void numbersHaveOneToSixDigits() {
        String[] places = {"p#(1=1)", "p1+#(1=1)", "p[#](1=1)", "p1(#=1)", "p1(1=#)", "p1(!(1<[2*#]))", "p1(1=1);p#(1=1)"};
        for (String place : places) {
            int at = place.indexOf('#');
            int clauses = place.indexOf(';') >= 0 ? 2 : 1;
            for (int digits = 1; digits <= 6; digits++) {
                fault(place.replace("#", Checks.times("9", digits)), clauses);
                fault(place.replace("#", Checks.times("0", digits)), clauses);
            }
            fault(place.replace("#", Checks.times("9", 7)), -2006 - at);
            fault(place.replace("#", Checks.times("0", 7)), -2006 - at);
            fault(place.replace("#", Checks.times("1", 20)), -2006 - at);
            fault(place.substring(0, at) + "1234567", -2006 - at);
            fault(place.substring(0, at) + "123456", -1006 - at);
            fault(place.replace("#", ""), -1000 - at);
        }
        lawFault("l(123456=1)", 1);
        lawFault("l(1234567=1)", -2008);
        C.due("of six digits", pays("p[999999-999998]*7(1=1)"), 7);
        C.due("of six, all 0 but one", pays("p000009(1=1)"), 9);
        C.due("of one", pays("p0(1=1)"), 0);
    }

    private static void openAreSix() {
        fault("p[[[[[[1]]]]]](1=1)", 1);
        fault("p[[[[[[[1]]]]]]](1=1)", -5007);
        fault("p[[[[[[[", -5007);
        fault("p1((((((1=1))))))", 1);
        fault("p1(((((((1=1)))))))", -5008);
        fault("p1(((((((", -5008);
        fault("p1(!!!!!1=1)", 1);
        fault("p1(!!!!!!1=1)", -5008);
        fault("p1(!!!!!!", -5008);
        fault("p1([[[[[1]]]]]=1)", 1);
        fault("p1([[[[[[1]]]]]]=1)", -5008);
        fault("p1(1=[[[[[1]]]]])", 1);
        fault("p1(1=[[[[[[1]]]]]])", -5010);
        fault("p1((!(![1]=1)))", 1);
        fault("p1((!(![[1]]=1)))", -5008);
        fault("p1((!(!(1=1))))", 1);
        fault("p1((!(!((1=1)))))", -5008);
        fault("p1((!(!!1=1)))", 1);
        fault("p1((!(!!!1=1)))", -5008);
        lawFault("l((((((1=1))))))", 1);
        lawFault("l(((((((1=1)))))))", -5007);
        lawFault("l(!!!!!1=1)", 1);
        lawFault("l(!!!!!!1=1)", -5007);
        lawFault("l([[[[[1]]]]]=1)", 1);
        lawFault("l([[[[[[1]]]]]]=1)", -5007);
    }

    /** What is shut is not open: brackets, a ! at the end of its PIECE, the E ahead of the clause's bracket. */
    private static void openInOneAnotherOnly() {
        fault("p[1]+[1]-[1]*[1]/[1]%[1]+[1](1=1)", 1);
        fault("p1((1=1)&(1=1)|(1=1)&(1=1)|(1=1)&(1=1)|(1=1))", 1);
        fault("p1(!1=1&!1=1|!1=1&!1=1|!1=1&!1=1|!1=1)", 1);
        fault("p1(!!!!!1=1&!!!!!1=1|!!!!!1=1)", 1);
        fault("p1(!!!!!1=1&!!!!!!1=1)", -5017);
        fault("p1(!!!!!1=1|!!!!!!1=1)", -5017);
        fault("p1(!!!!!(1=1))", -5008);
        fault("p1(!!!!(1=1)&!!!!(1=1))", 1);
        fault("p1(!!!!([1]=1))", -5008);
        fault("p1(!!!![1]=[1])", 1);
        fault("p1(!!!!!1=[1])", -5010);
        fault("p1(!!!!!1=1&[[[[[1]]]]]=1)", 1);
        fault("p1(!!!!!1=1&[[[[[[1]]]]]]=1)", -5017);
        fault("p1(!(!1=1)&!(!1=1)&!(!(!1=1)))", 1);
        fault("p[[[[[[1]]]]]]((((((1=1))))))", 1);
        fault("p[[[[[[1]]]]]](((((((1=1)))))))", -5020);
        fault("p[[[[[[1]]]]]]+[[[[[[[1]]]]]]](1=1)", -5021);
        fault("p1((((((1=1))))));p1((((((1=1))))))", 1 + 1);
        fault("p1((((((1=1))))));p1(((((((1=1)))))))", -5026);
    }

    private static void openWhereItCanStand() {
        fault("p[[[[[[(1]]]]]](1=1)", -1007);
        fault("p[[[[[[!1]]]]]](1=1)", -1007);
        fault("p((1=1)", -1001);
        fault("p!1(1=1)", -1001);
        fault("p1((((((1=(1))))))", -1010);
        fault("p1(!!!!!1=!1)", -1010);
        fault("p1(!!!!!1!)", -1009);
        fault("p1(!!!!!1[)", -1009);
        fault("p1([[[[[(1]]]]]=1)", -1008);
        fault("p1([[[[[!1]]]]]=1)", -1008);
        fault("p1[[[[[[[1(1=1)", -1002);
    }

    private static void faultsAreTheFirstFromTheLeft() {
        fault("p1234567((((((((", -2007);
        fault("p?1234567", -1001);
        fault("p[[[[[[[1234567", -5007);
        fault("p[[[[[[1234567", -2013);
        fault("p1(1=1);p1(1=1;p1(1=1)", -1014);
        fault("q1234567", -1000);
        fault(Checks.times("p1(1=1);", 12) + "p1234567", -4096);
        fault(Checks.times("p1(1=1);", 11) + "p1234567(1=1);p", -2095);
        fault("p1(1=1)?;" + Checks.times("p1(1=1);", 12), -1007);
    }

    // ---- what is paid

    private static void penceAreOfALoad() {
        OilHome x = Firms.loads(5, 6);
        Checks.contract(x, 0, "p9(1=1)");
        C.bounds("pence of", 0, 1, 9, -1, i -> x.pence(i));
        C.due("no loads", Firms.kitchens(1).pence(0), -1);
    }

    /** Load 0 of kitchen 1: day 25, 40 litres, water 1000, acid 7, MISSING 50, the price 44. */
    private static OilHome contracted(String text) {
        OilHome x = Firms.kitchensOn(30, 2);
        x.price(3, 44);
        x.fetch(1, 25, 40, 1000, 7, 300);
        C.due("contract " + text, Checks.contract(x, 1, text) > 0 ? 1 : 0, 1);
        return x;
    }

    private static int pays(String text) {
        return contracted(text).pence(0);
    }

    private static void holds(String condition) {
        C.due("holds: " + condition, pays("p5(" + condition + ");p9(1=1)"), 5);
    }

    private static void holdsNot(String condition) {
        C.due("does not hold: " + condition, pays("p5(" + condition + ");p9(1=1)"), 9);
    }

    private static void penceAreNotBelowZeroNorAbove() {
        String[] texts = {"p0(1=1)", "p1(1=1)", "p0-1(1=1)", "p99999(1=1)", "p100000(1=1)", "p100001(1=1)",
            "p65536*32767+65535(1=1)", "p65536*32768(1=1)", "p999999(1=1)", "p0-999999(1=1)"};
        int[] due = {0, 1, 0, 99999, 100000, 100000, 100000, 0, 100000, 0};
        for (int i = 0; i < texts.length; i++) {
            C.due("pence by " + texts[i], pays(texts[i]), due[i]);
            C.due("paid by " + texts[i], contracted(texts[i]).paid(1, 300), due[i]);
            C.due("as if by " + texts[i], contracted(texts[i]).asIf(1, 1), due[i]);
        }
    }

    private static void penceOfTheFirstThatHolds() {
        C.due("none holds", pays("p5(1=2);p9(2=1)"), 0);
        C.due("the first", pays("p5(1=1);p9(1=1)"), 5);
        C.due("the last", pays("p5(1=2);p9(1=2);p4(1=1)"), 4);
        C.due("the first that holds, though it is nothing", pays("p0(1=1);p9(1=1)"), 0);
        C.due("the first that holds, though it is below 0", pays("p0-5(1=1);p9(1=1)"), 0);
        C.due("the first that holds, though it is refused", pays("p1/0(1=1);p9(1=1)"), 0);
    }

    private static void noContractNoPence() {
        OilHome x = Firms.loads(5);
        C.due("no contract", x.pence(0), 0);
        C.due("no contract", x.paid(0, 399), 0);
        C.due("no contract", x.asIf(0, 0), 0);
        C.due("no clauses", x.count(10), 0);
        C.due("no law: all pass", x.batch(1), 0);
        C.due("no clauses", x.count(4), 0);
    }

    // ---- letters

    private static void lettersOfALoad() {
        String[] letters = {"q", "f", "a", "d", "w", "g", "k", "m", "s", "o", "n"};
        int[] due = {40, 1000, 7, 25, 3, 4, 1, 50, 0, 44, 0};
        for (int i = 0; i < letters.length; i++) {
            C.due("letter " + letters[i], pays("p" + letters[i] + "(1=1)"), due[i]);
        }
    }

    private static void lettersAtTheEndsOfTheYear() {
        int[] days = {0, 6, 7, 13, 14, 398, 399};
        for (int day : days) {
            OilHome x = Firms.kitchensOn(399, 1);
            for (int week = 0; week < 58; week++) {
                x.price(week, 900 - week);
            }
            x.fetch(0, day, 0, 0, 0, 399);
            Checks.contract(x, 0, "pd*100+w(1=1)");
            C.due("day and week of " + day, x.pence(0), day * 100 + day / 7);
            Checks.contract(x, 0, "po*10+g(1=1)");
            C.due("price and day of the week of " + day, x.pence(0), (900 - day / 7) * 10 + day % 7);
            Checks.law(x, "l(d=399&w=57&g=0&o=843)");
            C.due("of now", x.batch(1), 0);
        }
    }

    private static void lettersThatAreNone() {
        OilHome x = Firms.kitchensOn(9, 2);
        x.fetch(1, 4, 5, 0, 0, 4);
        x.fetch(1, 9, 5, 0, 0, 9);
        Checks.contract(x, 1, "pn(1=1)");
        C.due("n in a contract", x.pence(1), 0);
        Checks.contract(x, 1, "pk*10000+m*100+s(1=1)");
        C.due("k, m, s in a contract", x.pence(1), 10000 + 4000 + 5);
        Checks.law(x, "l(k=0);l(m=0);l(s=0);l(n=2&q=10)");
        C.due("k, m, s in the law", x.batch(2), -13);
        C.due("k, m, s in the law", x.batch(3), 0);
        C.due("k, m, s behind a batch", x.pence(1), 14005);
        Checks.contract(x, 1, "pn(n=0)");
        C.due("n in a contract behind a batch", x.pence(1), 0);
        Checks.contract(x, 1, "p8(n=0)");
        C.due("n in a contract behind a batch", x.pence(1), 8);
    }

    // ---- 32 bits

    private static void sumsWrapRound() {
        holds("65536*32767+65535>0");
        holds("65536*32767+65535+1<0");
        holds("65536*32767+65536=65536*32768");
        holds("65536*32768<0");
        holds("65536*32768-1>0");
        holds("65536*32768-1=65536*32767+65535");
        holds("0-[65536*32768]=65536*32768");
        holds("65536*32767+65535+[65536*32767+65535]=0-2");
        holdsNot("65536*32767+65535<65536*32767+65535+1");
        C.due("the greatest", pays("p65536*32767+65535-65536*32767(1=1)"), 65535);
        C.due("around and back", pays("p65536*32767+65535+9-65536*32767-65535(1=1)"), 9);
    }

    private static void productsWrapRound() {
        holds("65536*65536=0");
        holds("65536*65536+7=7");
        holds("65537*65537=131073");
        holds("999999*999999=0-729379*1000-967");
        holds("999999*999999<0");
        holds("46341*46341<0");
        holds("46340*46340>0");
        holds("65536*32768*2=0");
        holds("65536*32768*[0-1]=65536*32768");
        C.due("wrapped once", pays("p65537*65537-131073+4(1=1)"), 4);
        C.due("wrapped, and through", pays("p[999999*999999]/[0-10000](1=1)"), 72937);
    }

    private static void quotientsAreTheMachines() {
        holds("[0-7]/2=0-3");
        holds("7/[0-2]=0-3");
        holds("[0-7]/[0-2]=3");
        holds("[0-7]%2=0-1");
        holds("7%[0-2]=1");
        holds("[0-7]%[0-2]=0-1");
        holds("65536*32768/[0-1]=65536*32768");
        holds("65536*32768%[0-1]=0");
        holds("[0-1]/2=0");
        holds("1/2=0");
        holds("0/5=0");
        holds("0%5=0");
        holds("5%5=0");
        C.due("the least through -1 is below 0", pays("p65536*32768/[0-1](1=1)"), 0);
    }

    private static void leftOn() {
        C.due("from the left", pays("p100/7*2(1=1)"), 28);
        C.due("from the left", pays("p100%7*3(1=1)"), 6);
        C.due("from the left", pays("p100*7%3(1=1)"), 1);
        C.due("from the left", pays("p20-3-4(1=1)"), 13);
        C.due("from the left", pays("p20-3+4(1=1)"), 21);
        C.due("terms first", pays("p2+3*4-5(1=1)"), 9);
        C.due("brackets first", pays("p[2+3]*[4-1](1=1)"), 15);
        C.due("six in one another", pays("p9-[8-[7-[6-[5-[4-[3]]]]]](1=1)"), 9 - (8 - (7 - (6 - (5 - (4 - 3))))));
    }

    // ---- refused, and as much as matters

    private static void dividedByNothing() {
        C.due("through 0", pays("p1/0(1=1)"), 0);
        C.due("modulo 0", pays("p1%0(1=1)"), 0);
        C.due("0 through 0", pays("p0/0(1=1)"), 0);
        C.due("in a sum", pays("p50+1/0(1=1)"), 0);
        C.due("and more behind it", pays("p1/0+50(1=1)"), 0);
        C.due("times 0", pays("p50+0*[1/0](1=1)"), 0);
        C.due("by a letter", pays("p50/n(1=1)"), 0);
        C.due("by a difference", pays("p50/[q-40](1=1)"), 0);
        C.due("by what wraps to 0", pays("p50/[65536*65536](1=1)"), 0);
        C.due("not any more", pays("p50/[q-39](1=1)"), 50);
        holdsNot("1/0=0");
        holdsNot("1%0=0");
        holdsNot("0=1/0");
        holdsNot("0<1/0");
        holdsNot("0>1/0");
        C.due("an E that is not asked for", pays("p1/0(1=2);p9(1=1)"), 9);
    }

    /** What waited when a sum was refused must not stay for the next. */
    private static void refusedLeavesNothing() {
        OilHome x = Firms.loads(1);
        Checks.contract(x, 0, "p1+2*[3+4*[o/o]](1=1)");
        for (int i = 0; i < 60; i++) {
            C.due("refused", x.pence(0), 0);
        }
        x.price(0, 5);
        C.due("not any more", x.pence(0), 1 + 2 * 7);
    }

    private static void refusedThroughAll() {
        holdsNot("!1/0=0");
        holdsNot("!!1/0=0");
        holdsNot("!(1/0=0)");
        holdsNot("(1/0=0)|1=1");
        holdsNot("1/0=0|1=1");
        holdsNot("1=2|1/0=0|1=1");
        holdsNot("!(1/0=0|1=1)");
        holdsNot("!(1=1&1/0=0)|1=1");
        holdsNot("(((1%0=0)))|1=1");
        holdsNot("1=1&(1=2|1%0=0)|1=1");
        C.due("the next clause is asked", pays("p5(1/0=0);p6(1%0=0);p7(1=1)"), 7);
        OilHome x = Firms.loads(5);
        Checks.law(x, "l(1=1);l(!(1/[q-5]=0)|1=1)");
        C.due("in the law", x.batch(1), -11);
        C.due("in a blend", x.blend(), 0);
    }

    private static void asMuchAsMatters() {
        holds("1=1|1/0=0");
        holds("1=1|1=1|1/0=0");
        holds("1=1|1/0=0&1/0=0");
        holds("1=2&1/0=0|1=1");
        holds("1=2&1/0=0&1/0=0|1=1");
        holds("!(1=2&1/0=0)");
        holds("(1=1|1/0=0)&1=1");
        holds("1=1&(1=1|1/0=0)");
        holds("1=1&1=1|1/0=0");
        holds("!(!(1=1|1/0=0))");
        holdsNot("1=2&1/0=0");
        holdsNot("1/0=0&1=2");
        holdsNot("!(1=1|1/0=0)");
        OilHome x = Firms.loads(5);
        Checks.law(x, "l(1=2&1/0=0|1=1);l(1=1|1/0=0)");
        C.due("in the law", x.batch(1), 0);
    }

    private static void relations() {
        String[] texts = {"1<2", "2<2", "3<2", "1>2", "2>2", "3>2", "1=2", "2=2", "3=2"};
        boolean[] due = {true, false, false, false, false, true, false, true, false};
        for (int i = 0; i < texts.length; i++) {
            if (due[i]) {
                holds(texts[i]);
                holdsNot("!" + texts[i]);
            } else {
                holdsNot(texts[i]);
                holds("!" + texts[i]);
            }
        }
        holds("0-1<0");
        holds("0>0-1");
        holdsNot("0-1>0");
    }

    /** All ways for two and three to hold or not. */
    private static void partsAndPieces() {
        for (int bits = 0; bits < 8; bits++) {
            boolean a = (bits & 1) != 0;
            boolean b = (bits & 2) != 0;
            boolean c = (bits & 4) != 0;
            String[] of = {a ? "1=1" : "1=2", b ? "1=1" : "1=2", c ? "1=1" : "1=2"};
            String[] forms = {"A|B&C", "A&B|C", "(A|B)&C", "A&(B|C)", "!A&B|C", "!(A&B)|C", "!(A|B)&C", "A|!B|C", "A&B&C",
                "A|B|C", "!A|!(B&!C)"};
            boolean[] due = {a || b && c, a && b || c, (a || b) && c, a && (b || c), !a && b || c, !(a && b) || c,
                !(a || b) && c, a || !b || c, a && b && c, a || b || c, !a || !(b && !c)};
            for (int i = 0; i < forms.length; i++) {
                String text = forms[i].replace("A", of[0]).replace("B", of[1]).replace("C", of[2]);
                C.due(text, pays("p5(" + text + ");p9(1=1)"), due[i] ? 5 : 9);
            }
        }
    }

    // ---- prices, paid, as if

    private static void priceOfWeeks() {
        C.bounds("price of week", 0, 57, 1, 0, week -> Checks.of(new OilHome().price(week, 0)));
        C.bounds("price", 0, 1000, 1, 0, pence -> Checks.of(new OilHome().price(57, pence)));
        C.bounds("price of week 0", 0, 1000, 1, 0, pence -> Checks.of(new OilHome().price(0, pence)));
    }

    private static void priceIsOfItsWeek() {
        OilHome x = Firms.kitchensOn(399, 1);
        for (int day : new int[] {0, 6, 7, 399}) {
            x.fetch(0, day, 1, 0, 0, 399);
        }
        Checks.contract(x, 0, "po(1=1)");
        for (int i = 0; i < 4; i++) {
            C.due("0 at first, load " + i, x.pence(i), 0);
        }
        C.yes("week 0", x.price(0, 1000));
        C.due("day 0", x.pence(0), 1000);
        C.due("day 6", x.pence(1), 1000);
        C.due("day 7", x.pence(2), 0);
        C.yes("week 57", x.price(57, 3));
        C.due("day 399", x.pence(3), 3);
        C.no("1001", x.price(0, 1001));
        C.no("week 58", x.price(58, 9));
        C.due("stays", x.pence(0), 1000);
        C.due("stays", x.pence(3), 3);
        C.yes("told anew", x.price(0, 0));
        C.due("told anew", x.pence(0), 0);
    }

    private static void paidIsOfAKitchenAndADay() {
        OilHome x = Firms.kitchens(2);
        C.bounds("paid to", 0, 1, 0, -1, k -> x.paid(k, 0));
        C.bounds("paid by", 0, 399, 0, -1, day -> x.paid(1, day));
        C.due("no kitchens", new OilHome().paid(0, 0), -1);
    }

    private static void paidByWhatWasKnown() {
        OilHome x = Firms.kitchensOn(20, 2);
        x.fetch(0, 0, 1, 0, 0, 0);
        x.fetch(1, 0, 2, 0, 0, 0);
        x.fetch(0, 5, 4, 0, 0, 399);
        x.fetch(0, 5, 8, 0, 0, 6);
        x.fetch(0, 9, 16, 0, 0, 9);
        Checks.contract(x, 0, "pq(1=1)");
        C.due("on day 0", x.paid(0, 0), 1);
        C.due("on day 5", x.paid(0, 5), 1);
        C.due("on day 6", x.paid(0, 6), 9);
        C.due("on day 8", x.paid(0, 8), 9);
        C.due("on day 9", x.paid(0, 9), 25);
        C.due("on day 398", x.paid(0, 398), 25);
        C.due("on day 399", x.paid(0, 399), 29);
        Checks.contract(x, 0, "pm*1000+s(1=1)");
        C.due("with MISSING and what was ahead by all loads", x.paid(0, 9), 0 + 5 + (40 - 16 - 4) * 1000 + 13);
        C.due("all", x.paid(0, 399), 0 + 41000 + 1 + 5 + 20013);
    }

    private static void asIfIsOfTwoKitchens() {
        OilHome x = Firms.kitchens(2);
        C.bounds("as if k", 0, 1, 0, -1, k -> x.asIf(k, 0));
        C.bounds("as if j", 0, 1, 0, -1, j -> x.asIf(0, j));
        C.due("no kitchens", new OilHome().asIf(0, 0), -1);
        Checks.contract(x, 1, "pq*10+k(1=1)");
        C.due("no loads", x.asIf(0, 1), 0);
        x.fetch(0, 0, 7, 0, 0, 399);
        x.fetch(1, 0, 9, 0, 0, 0);
        C.due("all loads, known or not; its own letters", x.asIf(0, 1), 70);
        C.due("its own contract", x.asIf(1, 1), 91);
        C.due("no contract", x.asIf(1, 0), 0);
        C.due("its own stays", x.pence(0), 0);
        C.due("its own stays", x.count(10), 0);
    }
}
