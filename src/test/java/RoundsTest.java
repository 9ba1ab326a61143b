/** Promises 14, 15 and 37 to 40: rounds, driven, lorries, shared rounds, nights. */
public final class RoundsTest {
    private static final Checks C = new Checks("RoundsTest");

    public static void main(String[] args) {
        round();
        likeRounds();
        manyStops();
        driven();
        lorries();
        shared();
        sharedLimits();
        nights();
        nightsRefused();
        C.end();
    }

    private static void row(OilHome x, int day, int litres, int length, int... kitchens) {
        String call = "round(" + day + ", " + litres + ", ";
        C.due(call + "NONE)", x.round(day, litres, -1), length);
        for (int i = 0; i < kitchens.length; i++) {
            C.due(call + i + ")", x.round(day, litres, i), kitchens[i]);
        }
        C.due(call + "behind the last)", x.round(day, litres, kitchens.length), -1);
        C.due(call + "-2)", x.round(day, litres, -2), -1);
        C.due(call + "MAX)", x.round(day, litres, Integer.MAX_VALUE), -1);
    }

    private static void round() {
        OilHome x = new OilHome();
        C.due("no kitchens", x.round(0, 1, -1), 0);
        x.kitchen(50, 0, 10, 100);
        x.kitchen(10, 0, 10, 60);
        x.kitchen(50, 40, 5, 400);
        x.kitchen(0, 40, 0, 400);
        x.now(20);
        C.due("day -1", x.round(-1, 1, -1), -1);
        C.due("day 400", x.round(400, 1, -1), -1);
        C.due("litres 0", x.round(1, 0, -1), -1);
        C.due("litres 401", x.round(1, 401, -1), -1);
        row(x, 0, 1, 0);
        row(x, 10, 51, 100, 0, 1);
        row(x, 10, 50, 180, 0, 2, 1);
        row(x, 10, 100, 100, 0);
        row(x, 10, 101, 0);
        row(x, 399, 400, 180, 2);
        x.fetch(3, 15, 0, 0, 0, 15);
        C.due("one emptied behind it, though none goes there", x.round(14, 1, -1), -2);
        C.due("that is behind NONE", x.round(14, 0, -1), -1);
        C.due("-2 ahead of a place that is not there", x.round(14, 1, 9), -2);
        C.due("-2 ahead of a place that is not there", x.round(14, 1, -9), -2);
        C.due("on the day itself", x.round(15, 150, -1), 0);
    }

    private static void likeRounds() {
        OilHome x = new OilHome();
        x.kitchen(10, 10, 10, 100);
        x.kitchen(10, 0, 10, 100);
        x.kitchen(0, 10, 10, 100);
        x.kitchen(10, 10, 10, 100);
        row(x, 10, 50, 40, 1, 0, 3, 2);
        OilHome y = new OilHome();
        y.kitchen(30, 30, 10, 100);
        y.kitchen(20, 20, 10, 100);
        y.kitchen(10, 10, 10, 100);
        row(y, 10, 50, 120, 0, 1, 2);
        x.fetch(0, 0, 1, 0, 0, 0);
        row(x, 10, 50, 40, 1, 0, 3, 2);
    }

    private static void manyStops() {
        OilHome x = new OilHome();
        for (int k = 0; k < 8; k++) {
            x.kitchen(k * 7 % 8 * 10, 0, 10, 100);
        }
        row(x, 10, 100, 140, 0, 1, 2, 3, 4, 5, 6, 7);
        x.kitchen(99, 99, 9, 100);
        row(x, 10, 91, 140, 0, 1, 2, 3, 4, 5, 6, 7);
        C.due("nine", x.round(10, 90, -1), -2);
        C.due("nine, place 0", x.round(10, 90, 0), -2);
        C.due("nine, place 20", x.round(10, 90, 20), -2);
    }

    private static void driven() {
        OilHome x = new OilHome();
        C.due("nothing", x.driven(0), 0);
        C.due("nothing of nothing", x.driven(1), -1);
        x.kitchen(10, 5, 1, 20);
        x.kitchen(20, 0, 1, 20);
        C.due("one", Checks.driven(x, 1), 40);
        C.due("two", Checks.driven(x, 0, 1), 15 + 15 + 20);
        C.due("there and back again", Checks.driven(x, 0, 1, 0, 0), 15 + 15 + 15 + 15);
        C.due("no such kitchen", Checks.driven(x, 0, 2), -1);
        C.due("the tape is empty", x.count(3), 0);
        C.due("byte 255", Checks.driven(x, 255), -1);
        C.due("twenty", Checks.driven(x, new int[20]), 30);
        C.due("twenty-one", Checks.driven(x, new int[21]), -1);
        C.due("the tape stays", x.count(3), 40);
        C.due("-1", x.driven(-1), -1);
        C.due("the tape stays", x.count(3), 40);
        C.due("the first only", x.driven(1), 30);
        Checks.feedBytes(x, new int[1]);
        C.due("more than are there", x.driven(21), -1);
        C.due("the tape stays", x.count(3), 20);
        C.due("none of them", x.driven(0), 0);
        C.due("empty then", x.count(3), 0);
    }

    private static void lorries() {
        OilHome x = new OilHome();
        C.no("off of none", x.off(0, 0, true));
        C.due("19", x.lorry(19), -1);
        C.due("2001", x.lorry(2001), -1);
        C.due("20", x.lorry(20), 0);
        C.due("2000", x.lorry(2000), 1);
        C.due("500", x.lorry(500), 2);
        C.due("a fourth", x.lorry(500), -1);
        C.due("lorries", x.count(8), 3);
        C.no("not off already", x.off(2, 399, false));
        C.yes("off", x.off(2, 399, true));
        C.no("off already", x.off(2, 399, true));
        C.yes("not any more", x.off(2, 399, false));
        C.no("not any more", x.off(2, 399, false));
        C.no("day 400", x.off(2, 400, true));
        C.no("day -1", x.off(2, -1, true));
        C.no("lorry 3", x.off(3, 0, true));
        C.no("lorry -1", x.off(-1, 0, true));
        C.yes("another is on that day", x.off(0, 0, true));
        C.yes("of its own", x.off(1, 0, true));
    }

    private static void shares(OilHome x, int day, int litres, int length, int... lorries) {
        String call = "shared(" + day + ", " + litres + ", ";
        C.due(call + "NONE)", x.shared(day, litres, -1), length);
        for (int k = 0; k < lorries.length; k++) {
            C.due(call + k + ")", x.shared(day, litres, k), lorries[k]);
        }
    }

    private static void shared() {
        OilHome x = new OilHome();
        x.kitchen(10, 0, 10, 100);
        x.kitchen(0, 10, 10, 60);
        x.kitchen(90, 90, 0, 400);
        x.kitchen(10, 10, 10, 80);
        x.lorry(150);
        C.due("240 litres", x.shared(20, 1, -1), -2);
        C.due("-2 ahead of a kitchen to which none goes", x.shared(20, 1, 2), -2);
        C.due("a kitchen that is not there ahead of -2", x.shared(20, 1, 4), -1);
        C.due("10 ahead of -2", x.shared(20, 1, 10), -1);
        C.due("MAX ahead of -2", x.shared(20, 1, Integer.MAX_VALUE), -1);
        C.due("below NONE ahead of -2", x.shared(20, 1, -2), -1);
        C.due("MIN ahead of -2", x.shared(20, 1, Integer.MIN_VALUE), -1);
        shares(x, 20, 81, 20, 0, -1, -1, -1, -1);
        shares(x, 20, 101, 0, -1, -1, -1, -1);
        x.lorry(90);
        // 0 and 1 need 160; 0 and 3 need 180; 1 and 3, 140, fit into the first, but 0 not into the second.
        C.due("it can't be", x.shared(20, 1, -1), -2);
        x.lorry(100);
        shares(x, 20, 1, 40 + 20, 2, 0, -1, 0);
        C.due("of a kitchen that is not there", x.shared(20, 1, 4), -1);
        C.due("what -5", x.shared(20, 1, -5), -1);
        x.off(0, 20, true);
        C.due("without the first", x.shared(20, 1, -1), -2);
        shares(x, 20, 61, 20 + 40, 2, -1, -1, 1);
        shares(x, 21, 61, 20 + 40, 0, -1, -1, 1);
        x.off(1, 20, true);
        x.off(2, 20, true);
        C.due("all are off", x.shared(20, 61, -1), -2);
        C.due("and none is to be gone to", x.shared(20, 101, -1), 0);
        x.off(0, 20, false);
        shares(x, 20, 100, 20, 0, -1, -1, -1);
    }

    private static void sharedLimits() {
        OilHome x = new OilHome();
        for (int k = 0; k < 6; k++) {
            x.kitchen(k, 0, 10, 100);
        }
        x.lorry(2000);
        x.lorry(2000);
        C.due("day -1", x.shared(-1, 1, -1), -1);
        C.due("day 400", x.shared(400, 1, -1), -1);
        C.due("litres 0", x.shared(0, 0, -1), -1);
        C.due("litres 401", x.shared(0, 401, -1), -1);
        shares(x, 10, 100, 10, 0, 0, 0, 0, 0, 0);
        x.kitchen(0, 0, 9, 100);
        shares(x, 10, 91, 10, 0, 0, 0, 0, 0, 0, -1);
        C.due("seven", x.shared(10, 90, -1), -2);
        C.due("seven, of one of them", x.shared(10, 90, 6), -2);
        C.due("seven, of a kitchen that is not there", x.shared(10, 90, 7), -1);
        x.now(20);
        x.fetch(6, 12, 1, 0, 0, 12);
        C.due("emptied behind", x.shared(11, 91, -1), -2);
        C.due("emptied behind, of a kitchen to which none goes", x.shared(11, 91, 6), -2);
        C.due("emptied behind, of a kitchen that is not there", x.shared(11, 91, 7), -1);
        C.due("emptied behind, litres 0", x.shared(11, 0, -1), -1);
        C.due("on that day", x.shared(12, 91, -1), 10);
        // Kitchen 0 is at the depot, on the way of either, but 200 litres do not fit into the second.
        OilHome y = new OilHome();
        y.kitchen(0, 0, 10, 50);
        y.kitchen(5, 0, 10, 100);
        y.kitchen(9, 0, 10, 50);
        y.lorry(100);
        y.lorry(150);
        shares(y, 10, 10, 18, 0, 1, 1);
        OilHome z = new OilHome();
        z.kitchen(1, 0, 50, 121);
        z.lorry(120);
        C.due("a litre too much", z.shared(10, 1, -1), -2);
        z.kitchen(90, 0, 0, 20);
        C.due("still", z.shared(10, 1, -1), -2);
        z.lorry(121);
        shares(z, 10, 121, 2, 1, -1);
        shares(z, 2, 100, 2, 0, -1);
    }

    private static void nights(OilHome x, int day, int n, int litres, int... due) {
        for (int what = 0; what < 3; what++) {
            C.due("nights(" + day + ", " + n + ", " + litres + ", " + what + ")", x.nights(day, n, litres, what), due[what]);
        }
    }

    private static void nights() {
        OilHome x = new OilHome();
        x.kitchen(10, 0, 30, 100);
        x.kitchen(0, 10, 20, 100);
        x.now(10);
        x.fetch(0, 4, 1, 0, 0, 4);
        nights(x, 4, 1, 1, 20, 80, 1);
        // Day 5: 30 and 100; then each night 30 and 20.
        nights(x, 5, 3, 20, 120, 130 + 50 + 50, 6);
        // By 40: day 5: 1 (100); 6: 0 (60); 7: 1 (40); 8: 0 (60); 9: 1 (40).
        nights(x, 5, 5, 40, 100, 300, 5);
        nights(x, 393, 7, 100, 40 + 20 + 20, 200 + 100 + 100, 4);
        nights(x, 10, 7, 101, 0, 0, 0);
        C.due("nothing is told by it", x.likely(0, 5), 30);
        C.due("nothing is emptied", x.count(20), 4);
        nights(x, 5, 3, 20, 120, 230, 6);
        C.due("a round goes as before", x.round(7, 90, 0), 0);
    }

    private static void nightsRefused() {
        OilHome x = new OilHome();
        for (int k = 0; k < 9; k++) {
            x.kitchen(k, 0, k < 8 ? 20 : 10, 100);
        }
        C.due("day -1", x.nights(-1, 1, 1, 0), -1);
        C.due("day 400", x.nights(400, 1, 1, 0), -1);
        C.due("n 0", x.nights(0, 0, 1, 0), -1);
        C.due("n 0 of day 1", x.nights(1, 0, 1, 0), -1);
        C.due("n 8", x.nights(0, 8, 1, 0), -1);
        C.due("litres 0", x.nights(0, 1, 0, 0), -1);
        C.due("litres 401", x.nights(0, 1, 401, 0), -1);
        C.due("what -1", x.nights(0, 1, 1, -1), -1);
        C.due("what 3", x.nights(0, 1, 1, 3), -1);
        C.due("the last above 399", x.nights(394, 7, 101, 0), -1);
        C.due("the last is 399", x.nights(393, 7, 101, 0), 0);
        C.due("eight on one night", x.nights(1, 1, 20, 2), 8);
        C.due("nine on the second: 8 and 8 and 9 of them", x.nights(1, 2, 20, 2), -2);
        C.due("nine at once", x.nights(2, 1, 20, 2), -2);
        C.due("nine at once, what 3", x.nights(2, 1, 20, 3), -1);
        x.now(9);
        x.fetch(8, 9, 1, 0, 0, 9);
        C.due("emptied behind the first", x.nights(8, 3, 101, 0), -2);
        C.due("emptied on the first", x.nights(9, 3, 101, 0), 0);
    }
}
