/** Promises 1 to 6, 12 and 60: a new object, days, kitchens, fetches, the tape, counts. */
public final class KitchensTest {
    private static final Checks C = new Checks("KitchensTest");
    private static final int BIG = Integer.MAX_VALUE;
    private static final int SMALL = Integer.MIN_VALUE;

    public static void main(String[] args) {
        newObject();
        now();
        kitchen();
        likely();
        fetch();
        manyFetches();
        missing();
        feed();
        count();
        countAll();
        C.end();
    }

    private static void newObject() {
        OilHome x = new OilHome();
        C.due("NONE", OilHome.NONE, -1);
        for (int what = 0; what < 10; what++) {
            C.due("new count(" + what + ")", x.count(what), 0);
        }
        for (int what = 10; what < 100; what++) {
            C.due("new count(" + what + ")", x.count(what), -1);
        }
        C.due("new likely", x.likely(0, 0), -1);
        C.due("new pence", x.pence(0), -1);
        C.due("new blend", x.blend(), 0);
        C.due("new twice", x.twice(0), -1);
        C.due("new first", x.first(0, 15), 0);
        C.due("new stock", x.stock(0), 0);
        C.due("new lock", x.lock(12, 1), 0);
        C.due("new overdrawn", x.overdrawn(0), 0);
        C.due("new stale", x.stale(0), 0);
        C.due("new offer", x.offer(100, 0), 0);
    }

    private static void now() {
        OilHome x = new OilHome();
        C.yes("now(0)", x.now(0));
        C.no("now(-1)", x.now(-1));
        C.no("now(400)", x.now(400));
        C.no("now(BIG)", x.now(BIG));
        C.due("NOW", x.count(0), 0);
        C.yes("now(7)", x.now(7));
        C.yes("now(7) again", x.now(7));
        C.no("now(6), past", x.now(6));
        C.due("NOW", x.count(0), 7);
        C.yes("now(399)", x.now(399));
        C.due("NOW", x.count(0), 399);
    }

    private static void kitchen() {
        OilHome x = new OilHome();
        C.due("x -1", x.kitchen(-1, 0, 0, 20), -1);
        C.due("x 100", x.kitchen(100, 0, 0, 20), -1);
        C.due("y -1", x.kitchen(0, -1, 0, 20), -1);
        C.due("y 100", x.kitchen(0, 100, 0, 20), -1);
        C.due("litres -1", x.kitchen(0, 0, -1, 20), -1);
        C.due("litres 51", x.kitchen(0, 0, 51, 20), -1);
        C.due("drum 19", x.kitchen(0, 0, 0, 19), -1);
        C.due("drum 401", x.kitchen(0, 0, 0, 401), -1);
        C.due("none is there", x.count(1), 0);
        C.due("least", x.kitchen(0, 0, 0, 20), 0);
        C.due("most", x.kitchen(99, 99, 50, 400), 1);
        for (int k = 2; k < 10; k++) {
            C.due("kitchen " + k, x.kitchen(k, k, k, 20), k);
        }
        C.due("an eleventh", x.kitchen(0, 0, 0, 20), -1);
        C.due("kitchens", x.count(1), 10);
    }

    private static void likely() {
        OilHome x = new OilHome();
        x.now(10);
        x.kitchen(0, 0, 7, 20);
        x.kitchen(0, 0, 50, 400);
        C.due("on day 0", x.likely(0, 0), 0);
        C.due("on day 2", x.likely(0, 2), 14);
        C.due("at most the drum", x.likely(0, 3), 20);
        C.due("ahead of now, too", x.likely(0, 399), 20);
        C.due("on day 7", x.likely(1, 7), 350);
        C.due("day -1", x.likely(0, -1), -1);
        C.due("day 400", x.likely(0, 400), -1);
        C.due("kitchen 2", x.likely(2, 0), -1);
        C.due("kitchen -1", x.likely(-1, 0), -1);
        C.due("kitchen SMALL", x.likely(SMALL, BIG), -1);
        x.fetch(0, 5, 1, 0, 0, 5);
        C.due("on the day of a fetch", x.likely(0, 5), 0);
        C.due("behind a fetch", x.likely(0, 7), 14);
        C.due("ahead of a fetch", x.likely(0, 4), -1);
        C.due("of another one", x.likely(1, 4), 200);
    }

    private static void fetch() {
        OilHome x = new OilHome();
        x.kitchen(0, 0, 10, 100);
        x.kitchen(0, 0, 10, 100);
        x.now(10);
        C.due("kitchen 2", x.fetch(2, 1, 1, 1, 1, 1), -1);
        C.due("kitchen -1", x.fetch(-1, 1, 1, 1, 1, 1), -1);
        C.due("day -1", x.fetch(0, -1, 1, 1, 1, 1), -1);
        C.due("behind now", x.fetch(0, 11, 1, 1, 1, 11), -1);
        C.due("litres -1", x.fetch(0, 1, -1, 1, 1, 1), -1);
        C.due("litres 401", x.fetch(0, 1, 401, 1, 1, 1), -1);
        C.due("water -1", x.fetch(0, 1, 1, -1, 1, 1), -1);
        C.due("water 1001", x.fetch(0, 1, 1, 1001, 1, 1), -1);
        C.due("acid -1", x.fetch(0, 1, 1, 1, -1, 1), -1);
        C.due("acid 1001", x.fetch(0, 1, 1, 1, 1001, 1), -1);
        C.due("told ahead of its day", x.fetch(0, 5, 1, 1, 1, 4), -1);
        C.due("told 400", x.fetch(0, 5, 1, 1, 1, 400), -1);
        C.due("nothing was fetched", x.count(2), 0);
        C.due("nothing was emptied", x.count(20), 0);
        C.due("most", x.fetch(0, 10, 400, 1000, 1000, 399), 0);
        C.due("least", x.fetch(1, 0, 0, 0, 0, 0), 1);
        C.due("emptied on 10", x.count(20), 10);
        C.due("ahead of the latest", x.fetch(0, 9, 1, 1, 1, 9), -1);
        C.due("on the day of the latest", x.fetch(0, 10, 1, 1, 1, 10), 2);
        C.due("another's may be ahead", x.fetch(1, 9, 1, 1, 1, 9), 3);
        C.due("loads", x.count(2), 4);
    }

    private static void manyFetches() {
        OilHome x = new OilHome();
        x.kitchen(0, 0, 10, 100);
        for (int i = 0; i < 60; i++) {
            C.due("fetch " + i, x.fetch(0, 0, 1, 0, 0, 0), i);
        }
        C.due("a 61st", x.fetch(0, 0, 1, 0, 0, 0), -1);
        C.due("loads", x.count(2), 60);
        C.due("the last", x.missing(59), 0);
        C.due("behind the last", x.missing(60), -1);
    }

    private static void missing() {
        OilHome x = new OilHome();
        x.kitchen(0, 0, 13, 100);
        x.kitchen(0, 0, 7, 50);
        x.now(100);
        C.due("missing -1", x.missing(-1), -1);
        C.due("missing 0", x.missing(0), -1);
        x.fetch(0, 3, 30, 0, 0, 300);
        C.due("39 likely less 30 less 3", x.missing(0), 6);
        x.fetch(0, 6, 36, 0, 0, 300);
        C.due("39 likely less 36 less 3", x.missing(1), 0);
        x.fetch(0, 9, 35, 0, 0, 300);
        C.due("39 likely less 35 less 3", x.missing(2), 1);
        x.fetch(0, 99, 0, 0, 0, 300);
        C.due("a drum less a tenth", x.missing(3), 90);
        x.fetch(0, 99, 0, 0, 0, 300);
        C.due("on the same day", x.missing(4), 0);
        x.fetch(1, 50, 400, 0, 0, 300);
        C.due("more than is likely", x.missing(5), 0);
        C.due("the first stays", x.missing(0), 6);
    }

    private static void feed() {
        OilHome x = new OilHome();
        for (int i = 1; i <= 10; i++) {
            C.due("feed " + i, x.feed(i, SMALL, -1, BIG, 0), 20 * i);
        }
        C.due("an 11th", x.feed(0, 0, 0, 0, 0), -1);
        C.due("the tape stays", x.count(3), 200);
        C.due("driven empties it", x.driven(0), 0);
        C.due("the tape is empty", x.count(3), 0);
        x.kitchen(0, 0, 0, 20);
        C.due("fed behind", Checks.feedNumbers(x, 0x70350000, 0, 0, 0, 0), 20);
        C.due("the highest byte first", x.contract(0, 3), -1002);
    }

    private static void count() {
        OilHome x = new OilHome();
        x.now(9);
        x.kitchen(0, 0, 10, 100);
        x.kitchen(0, 0, 10, 100);
        x.fetch(0, 8, 5, 0, 0, 8);
        x.fetch(1, 9, 5, 0, 0, 9);
        x.street(1, 6);
        Checks.contract(x, 1, "p1(q>0);p2(q>1);p3(q>2)");
        Checks.law(x, "l(q>0);l(f<9)");
        C.due("a batch", x.batch(1), 0);
        x.now(11);
        C.due("a batch", x.batch(2), 1);
        x.proof(0, 0, 1, 0);
        x.now(12);
        x.proof(0, 0, 1, 0);
        x.proof(1, 0, 1, 0);
        x.sewer(1, 1);
        x.lorry(20);
        x.lorry(20);
        x.drum();
        Checks.feedText(x, "a");
        int[] due = {12, 2, 2, 20, 2, 2, 3, 1, 2, 1, 0, 3};
        for (int what = 0; what < due.length; what++) {
            C.due("count(" + what + ")", x.count(what), due[what]);
        }
        int[][] others = {{12, -1}, {19, -1}, {20, 8}, {21, 9}, {22, -1}, {30, 0}, {31, 6}, {32, -1}, {39, -1}, {40, 9},
            {41, 11}, {42, -1}, {49, -1}, {50, 11}, {51, 12}, {52, 12}, {53, -1}, {89, -1}, {90, -1}, {-1, -1},
            {BIG, -1}, {SMALL, -1}};
        for (int[] other : others) {
            C.due("count(" + other[0] + ")", x.count(other[0]), other[1]);
        }
    }

    private static void countAll() {
        OilHome x = new OilHome();
        x.now(99);
        for (int k = 0; k < 10; k++) {
            x.kitchen(0, 0, 1, 20);
            x.fetch(k, 60 + k, 5, 0, 0, 60 + k);
            x.street(k, 9 - k);
        }
        Checks.contract(x, 8, "p1(1=1)");
        Checks.contract(x, 9, "p1(1=1);p1(1=1)");
        for (int b = 0; b < 10; b++) {
            x.now(100 + b);
            x.batch(1 << b);
            x.proof(b, 0, 1, 0);
        }
        for (int k = 0; k < 10; k++) {
            C.due("clauses of " + k, x.count(10 + k), Math.max(0, k - 7));
            C.due("emptied " + k, x.count(20 + k), 60 + k);
            C.due("street of " + k, x.count(30 + k), 9 - k);
            C.due("batch " + k, x.count(40 + k), 100 + k);
            C.due("proof " + k, x.count(50 + k), 100 + k);
        }
    }
}
