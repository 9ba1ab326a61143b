/** Promises 22 to 26 and 49 to 53: offers, thefts and locks, uses, taxes, what was overdrawn. */
public final class BuyersTest {
    private static final Checks C = new Checks("BuyersTest");

    public static void main(String[] args) {
        offers();
        worth();
        offer();
        thefts();
        lock();
        use();
        rate();
        tax();
        overdrawn();
        C.end();
    }

    private static void offers() {
        OilHome x = new OilHome();
        C.no("no kitchen", x.offers(0, 0, 0));
        x.kitchen(0, 0, 10, 100);
        C.no("kitchen -1", x.offers(-1, 0, 0));
        C.no("least -1", x.offers(0, -1, 0));
        C.no("least 201", x.offers(0, 201, 0));
        C.no("rival -1", x.offers(0, 0, -1));
        C.no("rival 201", x.offers(0, 0, 201));
        C.due("comes for nothing at first", x.worth(0, 100), 1000);
        C.yes("200, 0", x.offers(0, 200, 0));
        C.due("199", x.worth(199, 1000), 0);
        C.due("200", x.worth(200, 1000), 8000);
        C.no("refused", x.offers(0, 0, 500));
        C.due("stays", x.worth(199, 1000), 0);
        C.yes("0, 200", x.offers(0, 0, 200));
        C.due("199", x.worth(199, 1000), 0);
        C.due("200", x.worth(200, 1000), 8000);
        C.yes("40, 41", x.offers(0, 40, 41));
        C.due("40", x.worth(40, 100), 0);
        C.due("41", x.worth(41, 100), 590);
    }

    private static void worth() {
        OilHome x = new OilHome();
        C.due("no kitchens", x.worth(0, 1000), 0);
        for (int k = 0; k < 10; k++) {
            x.kitchen(0, 0, 50, 100);
        }
        C.due("p -1", x.worth(-1, 0), -1000000);
        C.due("p 201", x.worth(201, 0), -1000000);
        C.due("value -1", x.worth(0, -1), -1000000);
        C.due("value 1001", x.worth(0, 1001), -1000000);
        C.due("least", x.worth(200, 0), -100000);
        C.due("most", x.worth(0, 1000), 500000);
        C.yes("one asks more", x.offers(9, 100, 50));
        C.due("without it", x.worth(99, 100), 450);
        C.due("with it", x.worth(100, 101), 500);
    }

    private static void offer(OilHome x, int value, int... due) {
        for (int what = 0; what < 3; what++) {
            C.due("offer(" + value + ", " + what + ")", x.offer(value, what), due[what]);
        }
    }

    private static void offer() {
        OilHome x = new OilHome();
        offer(x, 1000, 0, 0, 0);
        x.kitchen(0, 0, 10, 100);
        x.kitchen(0, 0, 30, 100);
        x.kitchen(0, 0, 0, 100);
        x.offers(0, 20, 0);
        x.offers(1, 10, 40);
        x.offers(2, 0, 41);
        C.due("value -1", x.offer(-1, 0), -1);
        C.due("value 1001", x.offer(1001, 0), -1);
        C.due("what -1", x.offer(0, -1), -1);
        C.due("what 3", x.offer(0, 3), -1);
        // At 20: 10 * (v - 20); at 40: 40 * (v - 40).
        offer(x, 1000, 40, 38400, 3);
        offer(x, 47, 40, 280, 3);
        offer(x, 46, 20, 260, 1);
        offer(x, 20, 0, 0, 0);
        offer(x, 0, 0, 0, 0);
        OilHome z = new OilHome();
        z.kitchen(0, 0, 10, 100);
        offer(z, 100, 0, 1000, 1);
        z.offers(0, 1, 1);
        offer(z, 100, 1, 990, 1);
        OilHome y = new OilHome();
        y.kitchen(0, 0, 1, 100);
        y.kitchen(0, 0, 1, 100);
        y.offers(0, 10, 0);
        y.offers(1, 20, 0);
        // At 10: v - 10; at 20: 2 * (v - 20); both 20 for v 30: the least p.
        offer(y, 30, 10, 20, 1);
        offer(y, 31, 20, 22, 3);
        y.offers(1, 200, 200);
        y.offers(0, 200, 0);
        offer(y, 1000, 200, 1600, 3);
    }

    private static void thefts() {
        OilHome x = new OilHome();
        C.no("hour -1", x.thefts(-1, 0));
        C.no("hour 24", x.thefts(24, 0));
        C.no("n -1", x.thefts(0, -1));
        C.no("n 1001", x.thefts(0, 1001));
        C.due("none", x.lock(12, 1), 0);
        C.yes("hour 23", x.thefts(23, 1000));
        C.due("told", x.lock(1, 1), 1000);
        C.yes("anew", x.thefts(23, 7));
        C.due("told anew", x.lock(1, 1), 7);
        C.yes("none any more", x.thefts(23, 0));
        C.due("none any more", x.lock(1, 1), 0);
        C.yes("hour 1", x.thefts(1, 5));
        C.due("hour 1", x.lock(1, 0), 1);
        C.yes("hour 0", x.thefts(0, 6));
        C.due("hour 0", x.lock(1, 0), 0);
        C.due("hour 0", x.lock(1, 1), 6);
    }

    private static void lock() {
        OilHome x = new OilHome();
        C.due("h 0", x.lock(0, 0), -1);
        C.due("h 13", x.lock(13, 0), -1);
        C.due("h -1", x.lock(-1, 0), -1);
        C.due("what -1", x.lock(1, -1), -1);
        C.due("what 2", x.lock(1, 2), -1);
        C.due("of like ones the least", x.lock(12, 0), 0);
        x.thefts(22, 3);
        x.thefts(0, 2);
        x.thefts(12, 4);
        int[][] due = {{1, 12, 4}, {2, 11, 4}, {3, 22, 5}, {4, 21, 5}, {11, 12, 7}, {10, 15, 5}, {12, 11, 7}};
        for (int[] row : due) {
            C.due("lock(" + row[0] + ", 0)", x.lock(row[0], 0), row[1]);
            C.due("lock(" + row[0] + ", 1)", x.lock(row[0], 1), row[2]);
        }
    }

    /** A batch of 8000 litres. */
    private static OilHome sold() {
        OilHome x = new OilHome();
        x.kitchen(0, 0, 10, 100);
        for (int i = 0; i < 20; i++) {
            x.fetch(0, 0, 400, 0, 0, 0);
        }
        x.batch(1048575);
        return x;
    }

    private static void use() {
        OilHome x = sold();
        C.no("buyer -1", x.use(-1, 0));
        C.no("buyer 10", x.use(10, 0));
        C.no("use -1", x.use(0, -1));
        C.no("use 4", x.use(0, 4));
        x.rate(0, 0, 100);
        x.rate(3, 0, 300);
        x.proof(0, 0, 50, 9);
        C.due("0 at first", x.tax(0), 50);
        C.yes("use 3", x.use(9, 3));
        C.due("as now", x.tax(0), 150);
        C.no("refused", x.use(9, 5));
        C.due("stays", x.tax(0), 150);
        C.yes("of another", x.use(8, 0));
        C.due("stays", x.tax(0), 150);
    }

    private static void rate() {
        OilHome x = sold();
        C.no("use -1", x.rate(-1, 0, 0));
        C.no("use 4", x.rate(4, 0, 0));
        C.no("week -1", x.rate(0, -1, 0));
        C.no("week -1 of use 1", x.rate(1, -1, 0));
        C.no("week 58", x.rate(0, 58, 0));
        C.no("pence -1", x.rate(0, 0, -1));
        C.no("pence 1001", x.rate(0, 0, 1001));
        C.yes("week 57", x.rate(3, 57, 1000));
        C.yes("week 0", x.rate(0, 0, 0));
    }

    private static void tax() {
        OilHome x = sold();
        C.due("no proof", x.tax(0), -1);
        C.due("proof -1", x.tax(-1), -1);
        x.proof(0, 0, 8000, 0);
        C.due("0 at first", x.tax(0), 0);
        x.now(6);
        x.proof(0, 0, 33, 1);
        x.now(7);
        x.proof(0, 10, 43, 1);
        x.rate(0, 0, 1000);
        x.use(1, 2);
        x.rate(2, 0, 10);
        x.rate(2, 1, 99);
        C.due("80000", x.tax(0), 80000);
        C.due("3.3", x.tax(1), 3);
        C.due("32.67", x.tax(2), 32);
        x.rate(2, 1, 1);
        C.due("0.33", x.tax(2), 0);
        C.due("proof 3", x.tax(3), -1);
    }

    private static void overdrawn() {
        OilHome x = sold();
        C.no("buyer -1", x.most(-1, 0));
        C.no("buyer 10", x.most(10, 0));
        C.no("litres -1", x.most(0, -1));
        C.no("litres 100001", x.most(0, 100001));
        C.due("week -1", x.overdrawn(-1), -1);
        C.due("week 58", x.overdrawn(58), -1);
        C.due("nothing", x.overdrawn(57), 0);
        x.proof(0, 0, 10, 2);
        x.proof(0, 0, 1, 9);
        C.due("more than nothing", x.overdrawn(0), 4 + 512);
        C.yes("at most 10", x.most(2, 10));
        C.due("as much", x.overdrawn(0), 512);
        x.now(6);
        x.proof(0, 0, 1, 2);
        C.due("the same litre again", x.overdrawn(0), 4 + 512);
        C.yes("at most 11", x.most(2, 11));
        C.due("as much", x.overdrawn(0), 512);
        x.now(7);
        x.proof(0, 0, 12, 2);
        C.due("another week", x.overdrawn(0), 512);
        C.due("of its own", x.overdrawn(1), 4);
        C.yes("most", x.most(2, 100000));
        C.due("of its own", x.overdrawn(1), 0);
        C.no("refused", x.most(2, -5));
        C.due("stays", x.overdrawn(1), 0);
        C.yes("nothing", x.most(2, 0));
        C.due("more than nothing", x.overdrawn(1), 4);
        x.proof(0, 0, 1, 0);
        C.due("buyer 0", x.overdrawn(1), 5);
    }
}
