/**
 * "Where several of these fit one call NONE (or what is told in its place) is told first, then a FAULT, then -2 (but
 * where a call tells otherwise); in round(), shared() NONE of a place that is not there, of a KITCHEN to which none
 * goes, behind -2": each call that has more than one such answer, where two or more fit.
 */
public final class FirstToldTest {
    private static final Checks C = new Checks("FirstToldTest");
    private static final int MIN = Integer.MIN_VALUE;
    private static final int MAX = Integer.MAX_VALUE;

    public static void main(String[] args) {
        contractNoneAheadOfAFault();
        lawNoneAheadOfAFault();
        faultsFromTheLeft();
        drivenNoSuchNAheadOfNoSuchKitchen();
        batchNoneAheadOfTheLaw();
        roundNoneAheadOfMoreThanEight();
        roundNoneAheadOfOneEmptiedBehind();
        roundPlaceBehind();
        sharedNoneAheadOfWhatCanNotBe();
        sharedNoneAheadOfMoreThanSix();
        sharedNoneAheadOfOneEmptiedBehind();
        sharedKitchenToWhichNoneGoesBehind();
        nightsNoneAheadOfMoreThanEight();
        nightsNoneAheadOfOneEmptiedBehind();
        firstNoneAheadOfNoSuchDay();
        stoodNoneAheadOfTheDepot();
        belowNoneAheadOfNoSuchDay();
        checkMinusTwoInItsPlace();
        sumsInItsPlace();
        C.end();
    }

    private static void contractNoneAheadOfAFault() {
        int[][] asked = {{1, 3}, {-1, 3}, {MIN, 3}, {MAX, 3}, {0, 0}, {0, -1}, {0, 21}, {0, 161}, {0, MIN}, {0, MAX}, {1, 161}};
        for (int[] of : asked) {
            OilHome x = Firms.kitchens(1);
            Checks.feedText(x, "???");
            C.due("contract(" + of[0] + ", " + of[1] + ")", x.contract(of[0], of[1]), -1);
            C.due("the tape stays", x.count(3), 20);
            C.due("a fault", x.contract(0, 3), -1000);
            C.due("the tape is empty", x.count(3), 0);
        }
    }

    private static void lawNoneAheadOfAFault() {
        for (int n : new int[] {0, -1, 21, 161, MIN, MAX}) {
            OilHome x = new OilHome();
            Checks.feedText(x, "???");
            C.due("law(" + n + ")", x.law(n), -1);
            C.due("the tape stays", x.count(3), 20);
            C.due("a fault", x.law(3), -1000);
            C.due("the tape is empty", x.count(3), 0);
        }
    }

    /** Of two faults that which stands further to the left; at one place a sign that can't stand there is that alone. */
    private static void faultsFromTheLeft() {
        String twelve = Checks.times("p1(1=1);", 12);
        String[] texts = {"?1234567", "p1234567?", "p1234567[[[[[[[", "p[[[[[[[1234567", "p[[[[[[1234567[", "p1((((((?(", "p1(((((((?",
            "p1((((((1234567)", twelve + "p1234567", twelve + "q", twelve + "?", "p1(1=1)?;" + twelve + "p", "p1(!!!!!(?", "p1(!!!!!?(",
            "p[[[[[[(", "p[[[[[[!", "p1(!!!!!)", "p1(!!!!!]"};
        int[] due = {-1000, -2007, -2007, -5007, -2013, -1008, -5008, -2014, -4096, -1096, -1096, -1007, -5008, -1008,
            -1007, -1007, -1008, -1008};
        for (int i = 0; i < texts.length; i++) {
            C.due(texts[i], Checks.contract(Firms.kitchens(1), 0, texts[i]), due[i]);
        }
    }

    private static void drivenNoSuchNAheadOfNoSuchKitchen() {
        OilHome x = Firms.kitchens(1);
        Checks.feedBytes(x, new int[20]);
        Checks.feedBytes(x, 9);
        for (int n : new int[] {-1, 21, 41, MIN, MAX}) {
            C.due("driven by " + n, x.driven(n), -1);
            C.due("the tape stays", x.count(3), 40);
        }
        OilHome y = new OilHome();
        Checks.feedBytes(y, 9);
        C.due("no kitchens, and not so many bytes", y.driven(21), -1);
        C.due("the tape stays", y.count(3), 20);
        C.due("no kitchens", y.driven(20), -1);
        C.due("the tape is empty", y.count(3), 0);
    }

    private static void batchNoneAheadOfTheLaw() {
        OilHome x = Firms.loads(1, 2, 4);
        x.fetch(0, 0, 8, 0, 0, 1);
        x.batch(1);
        Checks.law(x, "l(1=2)");
        C.due("by the law", x.batch(2), -10);
        C.due("no loads", x.batch(0), -1);
        C.due("no such loads", x.batch(1 << 20 | 2), -1);
        C.due("a load that is not there", x.batch(2 | 16), -1);
        C.due("in a batch", x.batch(1), -1);
        C.due("one of them in a batch", x.batch(3), -1);
        C.due("not known", x.batch(8), -1);
        C.due("one of them not known", x.batch(10), -1);
        C.due("below 0", x.batch(-2), -1);
        OilHome y = Firms.loads(new int[11]);
        for (int i = 0; i < 10; i++) {
            y.batch(1 << i);
        }
        Checks.law(y, "l(1=2)");
        C.due("ten are there", y.batch(1 << 10), -1);
    }

    // ---- rounds

    private static void roundNoneAheadOfMoreThanEight() {
        OilHome x = Firms.kitchens(9);
        C.due("nine", x.round(9, 1, -1), -2);
        C.due("nine, place 0", x.round(9, 1, 0), -2);
        for (int litres : new int[] {0, -1, 401, MIN, MAX}) {
            C.due("nine, by " + litres, x.round(9, litres, -1), -1);
            C.due("nine, by " + litres + ", place 0", x.round(9, litres, 0), -1);
        }
        for (int day : new int[] {-1, 400, MIN, MAX}) {
            C.due("nine, on " + day, x.round(day, 1, -1), -1);
        }
    }

    private static OilHome emptiedOnTen() {
        OilHome x = Firms.kitchensOn(20, 2);
        x.lorry(2000);
        x.fetch(0, 10, 0, 0, 0, 10);
        return x;
    }

    private static void roundNoneAheadOfOneEmptiedBehind() {
        OilHome x = emptiedOnTen();
        C.due("emptied behind", x.round(9, 1, -1), -2);
        for (int litres : new int[] {0, 401, MIN, MAX}) {
            C.due("emptied behind, by " + litres, x.round(9, litres, -1), -1);
        }
        for (int day : new int[] {-1, MIN}) {
            C.due("emptied behind, on " + day, x.round(day, 1, -1), -1);
        }
    }

    private static void roundPlaceBehind() {
        OilHome nine = Firms.kitchens(9);
        for (int what : new int[] {8, 9, 10, 100, MAX, -2, MIN}) {
            C.due("nine, place " + what, nine.round(9, 1, what), -2);
            C.due("emptied behind, place " + what, emptiedOnTen().round(9, 1, what), -2);
            C.due("none ahead, place " + what, nine.round(9, 0, what), -1);
            C.due("nothing else, place " + what, Firms.kitchens(2).round(9, 1, what), -1);
        }
        C.due("emptied behind, none to go to, place 0", emptiedOnTen().round(9, 400, 0), -2);
        C.due("none to go to, place 0", emptiedOnTen().round(10, 400, 0), -1);
    }

    // ---- shared rounds

    private static void sharedNoneAheadOfWhatCanNotBe() {
        OilHome x = Firms.kitchens(2);
        C.due("no lorries", x.shared(9, 1, -1), -2);
        C.due("no lorries, of a kitchen", x.shared(9, 1, 1), -2);
        for (int what : new int[] {2, 3, 10, MAX, -2, -3, MIN}) {
            C.due("no lorries, of a kitchen that is not there: " + what, x.shared(9, 1, what), -1);
        }
        for (int litres : new int[] {0, 401, MIN, MAX}) {
            C.due("no lorries, by " + litres, x.shared(9, litres, -1), -1);
            C.due("no lorries, by " + litres + ", of a kitchen", x.shared(9, litres, 1), -1);
        }
        for (int day : new int[] {-1, 400, MIN, MAX}) {
            C.due("no lorries, on " + day, x.shared(day, 1, -1), -1);
        }
        C.due("no kitchens: of one", new OilHome().shared(0, 1, 0), -1);
    }

    private static void sharedNoneAheadOfMoreThanSix() {
        OilHome x = Firms.kitchens(7);
        x.lorry(2000);
        C.due("seven", x.shared(9, 1, -1), -2);
        C.due("seven, of a kitchen", x.shared(9, 1, 6), -2);
        C.due("seven, of one that is not there", x.shared(9, 1, 7), -1);
        C.due("seven, by 0", x.shared(9, 0, -1), -1);
        C.due("seven, on 400", x.shared(400, 1, -1), -1);
    }

    private static void sharedNoneAheadOfOneEmptiedBehind() {
        OilHome x = emptiedOnTen();
        C.due("emptied behind", x.shared(9, 1, -1), -2);
        C.due("emptied behind, of one that is not there", x.shared(9, 1, 2), -1);
        C.due("emptied behind, by 401", x.shared(9, 401, -1), -1);
        C.due("emptied behind, on -1", x.shared(-1, 1, -1), -1);
    }

    private static void sharedKitchenToWhichNoneGoesBehind() {
        OilHome x = Firms.kitchensOn(20, 2);
        x.kitchen(5, 5, 0, 20);
        C.due("no lorries", x.shared(9, 1, 2), -2);
        C.due("none to go to at all", x.shared(0, 1, 2), -1);
        x.lorry(20);
        C.due("too much for the lorry", x.shared(9, 1, 2), -2);
        x.lorry(2000);
        C.due("it can be", x.shared(9, 1, 2), -1);
        x.fetch(0, 10, 0, 0, 0, 10);
        C.due("emptied behind", x.shared(9, 1, 2), -2);
        OilHome y = Firms.kitchens(7);
        y.lorry(2000);
        y.kitchen(5, 5, 0, 20);
        C.due("seven", y.shared(9, 1, 7), -2);
    }

    // ---- nights

    private static void nightsNoneAheadOfMoreThanEight() {
        OilHome x = Firms.kitchens(9);
        for (int what = 0; what < 3; what++) {
            C.due("nine, what " + what, x.nights(9, 1, 1, what), -2);
        }
        nightsAreNone(x, 9);
        C.due("nine, the last night 400", x.nights(394, 7, 1, 0), -1);
        C.due("nine, the last night 399", x.nights(393, 7, 1, 0), -2);
    }

    private static void nightsNoneAheadOfOneEmptiedBehind() {
        OilHome x = emptiedOnTen();
        for (int what = 0; what < 3; what++) {
            C.due("emptied behind, what " + what, x.nights(9, 1, 1, what), -2);
        }
        nightsAreNone(x, 9);
        OilHome y = Firms.kitchensOn(399, 1);
        y.fetch(0, 399, 0, 0, 0, 399);
        C.due("emptied behind, the last night 400", y.nights(398, 3, 1, 0), -1);
        C.due("emptied behind, the last night 399", y.nights(398, 2, 1, 0), -2);
    }

    private static void nightsAreNone(OilHome x, int day) {
        for (int what : new int[] {-1, 3, MIN, MAX}) {
            C.due("what " + what, x.nights(day, 1, 1, what), -1);
        }
        for (int n : new int[] {0, 8, -1, MIN, MAX}) {
            C.due("n " + n, x.nights(day, n, 1, 0), -1);
        }
        for (int litres : new int[] {0, 401, -1, MIN, MAX}) {
            C.due("litres " + litres, x.nights(day, 1, litres, 0), -1);
        }
        for (int of : new int[] {-1, 400, MIN, MAX}) {
            C.due("day " + of, x.nights(of, 1, 1, 0), -1);
        }
    }

    // ---- others that tell -2, or another sign in the place of NONE

    private static void firstNoneAheadOfNoSuchDay() {
        OilHome x = new OilHome();
        C.due("none from 399 on", x.first(399, 41), -2);
        C.due("day 400", x.first(400, 41), -1);
        C.due("day -1", x.first(-1, 41), -1);
        C.due("below 42", x.first(399, 42), -1);
        C.due("below MAX", x.first(399, MAX), -1);
    }

    private static void stoodNoneAheadOfTheDepot() {
        OilHome x = Firms.drums(1);
        C.due("at the depot", x.stood(0, 399), -2);
        C.due("day 400", x.stood(0, 400), -1);
        C.due("day -1", x.stood(0, -1), -1);
        C.due("drum 1", x.stood(1, 0), -1);
    }

    private static void belowNoneAheadOfNoSuchDay() {
        OilHome x = new OilHome();
        C.due("no such day", x.below(-10000), -2);
        C.due("no such number", x.below(-10001), -1);
        C.due("no such number", x.below(MIN), -1);
    }

    private static void checkMinusTwoInItsPlace() {
        OilHome x = Firms.kitchens(1);
        C.due("no loads, no numbers: right", x.check(0, 0), -1);
        C.due("no such kitchen, no numbers", x.check(1, 0), -2);
        C.due("no such n", x.check(0, -1), -2);
        C.due("it has not so many", x.check(0, 1), -2);
    }

    private static void sumsInItsPlace() {
        OilHome x = Firms.kitchens(1);
        C.due("worth of no such offer", x.worth(201, 0), -1000000);
        C.due("worth of no such value", x.worth(200, -1), -1000000);
        C.due("worth below 0", x.worth(200, 0), -2000);
        x.spill(0, 1);
        C.due("stock on no such day", x.stock(-1), -1000000);
        C.due("stock below 0", x.stock(0), -1);
    }
}
