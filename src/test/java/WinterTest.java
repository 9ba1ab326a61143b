/** Promises 27 to 32, 41 to 46 and 56 to 59: sewers, winter, feasts, drums, stock, checks. */
public final class WinterTest {
    private static final Checks C = new Checks("WinterTest");

    public static void main(String[] args) {
        sewers();
        beside();
        degrees();
        late();
        first();
        feast();
        feasted();
        drums();
        moves();
        manyMoves();
        stale();
        spills();
        stock();
        below();
        check();
        checkRefused();
        C.end();
    }

    private static void sewers() {
        OilHome x = new OilHome();
        C.due("none", x.blocked(0), -1);
        C.due("x -1", x.sewer(-1, 0), -1);
        C.due("x 100", x.sewer(100, 0), -1);
        C.due("y -1", x.sewer(0, -1), -1);
        C.due("y 100", x.sewer(0, 100), -1);
        for (int i = 0; i < 10; i++) {
            C.due("sewer " + i, x.sewer(99, 11 * i), i);
        }
        C.due("an eleventh", x.sewer(0, 0), -1);
        C.due("sewers", x.count(7), 10);
        C.due("once", x.blocked(9), 1);
        C.due("twice", x.blocked(9), 2);
        C.due("another", x.blocked(0), 1);
        C.due("-1", x.blocked(-1), -1);
        C.due("10", x.blocked(10), -1);
    }

    private static void beside() {
        OilHome x = new OilHome();
        x.kitchen(0, 0, 0, 20);
        x.kitchen(0, 0, 1, 20);
        x.kitchen(99, 99, 0, 20);
        x.kitchen(3, 4, 0, 20);
        x.sewer(0, 0);
        x.sewer(9, 4);
        C.due("way -1", x.beside(-1, 1), -1);
        C.due("way 199", x.beside(199, 1), -1);
        C.due("often 0", x.beside(0, 0), -1);
        C.due("often 1001", x.beside(0, 1001), -1);
        C.due("none was blocked", x.beside(198, 1), 0);
        x.blocked(0);
        C.due("at it", x.beside(0, 1), 1);
        C.due("within 6", x.beside(6, 1), 1);
        C.due("within 7", x.beside(7, 1), 9);
        C.due("within 198", x.beside(198, 1), 13);
        C.due("twice", x.beside(198, 2), 0);
        x.blocked(1);
        C.due("of either", x.beside(6, 1), 9);
        x.blocked(1);
        C.due("of one", x.beside(6, 2), 8);
        C.due("not within", x.beside(5, 2), 0);
        C.due("1000 times", x.beside(198, 1000), 0);
    }

    private static void degrees() {
        OilHome x = new OilHome();
        C.no("day -1", x.degrees(-1, 0));
        C.no("day 400", x.degrees(400, 0));
        C.no("-41", x.degrees(0, -41));
        C.no("41", x.degrees(0, 41));
        C.yes("-40", x.degrees(399, -40));
        C.yes("40", x.degrees(0, 40));
        C.due("15 at first", x.first(1, 15), 1);
        C.due("40", x.first(0, 40), 0);
        C.due("-40", x.first(399, -40), 399);
        C.due("-40", x.first(399, -39), -2);
    }

    private static void late() {
        OilHome x = new OilHome();
        x.kitchen(0, 0, 10, 100);
        x.kitchen(0, 0, 10, 100);
        x.now(20);
        x.fetch(0, 3, 1, 0, 0, 3);
        x.fetch(1, 3, 1, 0, 0, 3);
        x.fetch(0, 3, 1, 0, 0, 3);
        x.fetch(0, 9, 1, 0, 0, 9);
        x.degrees(3, -40);
        C.due("below -40", x.late(0, -40), 0);
        C.due("below -39", x.late(0, -39), 2);
        C.due("below 15", x.late(0, 15), 2);
        C.due("below 16", x.late(0, 16), 3);
        C.due("below 41", x.late(1, 41), 1);
        C.due("below -41", x.late(0, -41), -1);
        C.due("below 42", x.late(0, 42), -1);
        C.due("kitchen 2", x.late(2, 0), -1);
        C.due("kitchen -1", x.late(-1, 0), -1);
        x.degrees(9, 40);
        C.due("told anew", x.late(0, 40), 2);
    }

    private static void first() {
        OilHome x = new OilHome();
        C.due("day -1", x.first(-1, 0), -1);
        C.due("day 400", x.first(400, 0), -1);
        C.due("below -41", x.first(0, -41), -1);
        C.due("below 42", x.first(0, 42), -1);
        C.due("below 41", x.first(0, 41), -2);
        C.due("below 41, day 400", x.first(400, 41), -1);
        for (int day = 10; day < 20; day++) {
            x.degrees(day, day - 20);
        }
        C.due("it sets not", x.first(10, -10), 10);
        C.due("it sets", x.first(10, -9), 11);
        C.due("behind the winter", x.first(10, 15), 20);
        C.due("ahead of the winter", x.first(9, 15), 9);
        x.degrees(399, 30);
        C.due("the last", x.first(5, 16), 399);
    }

    private static void feast() {
        OilHome x = new OilHome();
        C.no("day -1", x.feast(-1, 0));
        C.no("day 400", x.feast(400, 0));
        C.no("-1 more", x.feast(0, -1));
        C.no("301 more", x.feast(0, 301));
        C.yes("300 more", x.feast(0, 300));
        C.yes("0 more", x.feast(399, 0));
        C.due("no load", x.feasted(0, 0), -1);
    }

    private static void feasted() {
        OilHome x = new OilHome();
        x.kitchen(0, 0, 7, 100);
        x.now(30);
        x.fetch(0, 4, 10, 0, 0, 4);
        x.fetch(0, 7, 20, 0, 0, 7);
        C.due("4 days of 7", x.feasted(0, 0), 28);
        C.due("less 10 less 2", x.feasted(0, 1), 16);
        x.feast(0, 300);
        C.due("the day of the start is none of them", x.feasted(0, 0), 28);
        x.feast(4, 50);
        C.due("its own is: 7 * 1.5", x.feasted(0, 0), 31);
        C.due("that of the one ahead is none", x.feasted(1, 0), 21);
        x.feast(5, 50);
        x.feast(6, 50);
        C.due("each rounded down", x.feasted(1, 0), 10 + 10 + 7);
        C.due("27 less 20 less 2", x.feasted(1, 1), 5);
        x.feast(7, 300);
        C.due("300 more", x.feasted(1, 0), 48);
        x.fetch(0, 30, 100, 0, 0, 30);
        C.due("at most the drum", x.feasted(2, 0), 100);
        C.due("not below 0", x.feasted(2, 1), 0);
        C.due("missing stays", x.missing(1), 0);
        C.due("what -1", x.feasted(0, -1), -1);
        C.due("what 2", x.feasted(0, 2), -1);
        C.due("load -1", x.feasted(-1, 0), -1);
        C.due("load 3", x.feasted(3, 0), -1);
        x.fetch(0, 30, 0, 0, 0, 30);
        C.due("on the same day", x.feasted(3, 0), 0);
        OilHome y = new OilHome();
        y.kitchen(0, 0, 50, 400);
        y.now(1);
        y.fetch(0, 1, 0, 0, 0, 1);
        int[][] due = {{0, 50}, {1, 50}, {2, 51}, {98, 99}, {99, 99}, {100, 100}, {300, 200}};
        for (int[] row : due) {
            y.feast(1, row[0]);
            C.due("50 and " + row[0] + " in the hundred more", y.feasted(0, 0), row[1]);
        }
        C.due("200 less 20", y.feasted(0, 1), 180);
    }

    private static void drums() {
        OilHome x = new OilHome();
        C.due("none", x.stood(0, 0), -1);
        C.no("none", x.moves(0, -1, 0));
        for (int i = 0; i < 20; i++) {
            C.due("drum " + i, x.drum(), i);
        }
        C.due("a 21st", x.drum(), -1);
        C.due("drums", x.count(9), 20);
        C.due("at the depot", x.stood(19, 399), -2);
        C.due("drum 20", x.stood(20, 0), -1);
        C.due("drum -1", x.stood(-1, 0), -1);
        C.due("day 400", x.stood(0, 400), -1);
        C.due("day -1", x.stood(0, -1), -1);
    }

    private static void moves() {
        OilHome x = new OilHome();
        x.kitchen(0, 0, 0, 20);
        x.kitchen(0, 0, 0, 20);
        x.drum();
        x.drum();
        x.now(20);
        C.no("drum 2", x.moves(2, 0, 5));
        C.no("drum -1", x.moves(-1, 0, 5));
        C.no("kitchen 2", x.moves(0, 2, 5));
        C.no("kitchen -2", x.moves(0, -2, 5));
        C.no("day -1", x.moves(0, 0, -1));
        C.no("behind now", x.moves(0, 0, 21));
        C.yes("to 1", x.moves(0, 1, 5));
        C.no("ahead of the latest", x.moves(0, 0, 4));
        C.due("day 4", x.stood(0, 4), -2);
        C.due("day 5", x.stood(0, 5), 1);
        C.yes("told anew for that day", x.moves(0, 0, 5));
        C.due("day 5", x.stood(0, 5), 0);
        C.yes("to the depot", x.moves(0, -1, 20));
        C.due("day 19", x.stood(0, 19), 0);
        C.due("day 20", x.stood(0, 20), -2);
        C.yes("the other one", x.moves(1, 1, 0));
        C.due("of its own", x.stood(1, 0), 1);
        C.due("of its own", x.stood(1, 399), 1);
        x.now(399);
        C.yes("on 399", x.moves(0, 0, 399));
        C.no("ahead of 399", x.moves(0, 0, 398));
    }

    private static void manyMoves() {
        OilHome x = new OilHome();
        x.kitchen(0, 0, 0, 20);
        x.drum();
        x.drum();
        for (int i = 0; i < 60; i++) {
            C.yes("move " + i, x.moves(i % 2, i % 4 - 1 == 2 ? 0 : -1, 0));
        }
        C.no("a 61st", x.moves(0, 0, 0));
        C.due("the last of 1", x.stood(1, 0), 0);
    }

    private static void stale() {
        OilHome x = new OilHome();
        x.kitchen(0, 0, 0, 20);
        for (int i = 0; i < 4; i++) {
            x.drum();
        }
        x.now(10);
        x.moves(0, 0, 2);
        x.moves(1, 0, 2);
        x.moves(1, -1, 6);
        x.moves(3, 0, 1);
        x.moves(3, 0, 7);
        C.due("-1", x.stale(-1), -1);
        C.due("400", x.stale(400), -1);
        C.due("0", x.stale(0), 9);
        C.due("3", x.stale(3), 9);
        C.due("4", x.stale(4), 1);
        C.due("8", x.stale(8), 1);
        C.due("9", x.stale(9), 0);
        x.now(399);
        C.due("399", x.stale(399), 0);
        C.due("397", x.stale(397), 1);
        C.due("392", x.stale(392), 9);
    }

    private static void spills() {
        OilHome x = new OilHome();
        x.now(5);
        C.due("day -1", x.spill(-1, 1), -1);
        C.due("behind now", x.spill(6, 1), -1);
        C.due("litres 0", x.spill(0, 0), -1);
        C.due("litres 401", x.spill(0, 401), -1);
        OilHome y = new OilHome();
        C.due("on day 0", y.spill(0, 1), 1);
        C.due("one litre", y.stock(0), -1);
        for (int n = 1; n <= 40; n++) {
            C.due("spill " + n, x.spill(5, 400), n);
        }
        C.due("a 41st", x.spill(5, 1), -1);
        C.due("stock", x.stock(5), -16000);
        C.due("stock ahead", x.stock(4), 0);
        C.due("below", x.below(-10000), 5);
    }

    private static void stock() {
        OilHome x = new OilHome();
        x.kitchen(0, 0, 10, 100);
        x.now(9);
        x.fetch(0, 3, 50, 0, 0, 300);
        x.fetch(0, 4, 60, 0, 0, 9);
        x.spill(4, 7);
        C.due("day -1", x.stock(-1), -1000000);
        C.due("day 400", x.stock(400), -1000000);
        C.due("day 2", x.stock(2), 0);
        C.due("day 3, though not known", x.stock(3), 50);
        C.due("day 4", x.stock(4), 103);
        C.due("a batch", x.batch(2), 0);
        C.due("day 8", x.stock(8), 103);
        C.due("day 9", x.stock(9), 43);
        C.due("day 399", x.stock(399), 43);
        C.due("refused", x.batch(1), -1);
        C.due("day 399", x.stock(399), 43);
    }

    private static void below() {
        OilHome x = new OilHome();
        x.kitchen(0, 0, 10, 100);
        C.due("10001", x.below(10001), -1);
        C.due("-10001", x.below(-10001), -1);
        C.due("10000", x.below(10000), 0);
        C.due("0", x.below(0), -2);
        x.fetch(0, 0, 10, 0, 0, 0);
        x.now(9);
        x.spill(9, 30);
        C.due("10", x.below(10), 9);
        C.due("11", x.below(11), 0);
        C.due("-19", x.below(-19), 9);
        C.due("-20", x.below(-20), -2);
        x.now(20);
        C.due("-20", x.below(-20), -2);
        x.fetch(0, 20, 30, 0, 0, 20);
        C.due("0", x.below(0), 9);
        OilHome y = new OilHome();
        y.kitchen(0, 0, 10, 100);
        y.fetch(0, 0, 10, 0, 0, 0);
        y.now(5);
        y.batch(1);
        C.due("by a batch", y.below(10), 5);
    }

    private static void check() {
        OilHome x = new OilHome();
        x.kitchen(0, 0, 10, 100);
        x.kitchen(0, 0, 10, 100);
        x.kitchen(0, 0, 10, 100);
        x.now(300);
        x.fetch(1, 9, 50, 0, 0, 399);
        x.fetch(0, 5, 9, 0, 0, 5);
        x.fetch(1, 290, 300, 0, 0, 399);
        C.due("right", Checks.check(x, 1, 0, 9, 50, 31, 2, 290, 300, 0), -1);
        C.due("the tape is empty", x.count(3), 0);
        C.due("nothing of nothing", Checks.check(x, 2), -1);
        C.due("nothing: all are lacking", Checks.check(x, 1), 0);
        C.due("one is lacking", Checks.check(x, 1, 0, 9, 50, 31), 4);
        for (int i = 0; i < 8; i++) {
            int[] numbers = {0, 9, 50, 31, 2, 290, 300, 0};
            numbers[i] += 256;
            C.due("number " + i, Checks.check(x, 1, numbers), i);
            numbers[i] = -1;
            C.due("number " + i, Checks.check(x, 1, numbers), i);
        }
        C.due("wrong, and one is lacking", Checks.check(x, 1, 0, 9, 51, 31), 2);
        C.due("one too many", Checks.check(x, 0, 1, 5, 9, 36, 2, 290, 300, 0), 4);
        C.due("right of 0", Checks.check(x, 0, 1, 5, 9, 36), -1);
        C.due("of none", Checks.check(x, 2, 0, 0, 0, 0), 0);
    }

    private static void checkRefused() {
        OilHome x = new OilHome();
        C.due("no kitchen", x.check(0, 0), -2);
        x.kitchen(0, 0, 10, 100);
        x.fetch(0, 0, 5, 0, 0, 0);
        Checks.feedNumbers(x, 0, 0, 5, 0);
        C.due("kitchen -1", x.check(-1, 1), -2);
        C.due("kitchen 1", x.check(1, 1), -2);
        C.due("n -1", x.check(0, -1), -2);
        C.due("n 2", x.check(0, 2), -2);
        C.due("n of 2^28 and one", x.check(0, (1 << 28) + 1), -2);
        C.due("n MAX", x.check(0, Integer.MAX_VALUE), -2);
        C.due("n MIN", x.check(0, Integer.MIN_VALUE), -2);
        C.due("the tape stays", x.count(3), 20);
        C.due("right", x.check(0, 1), -1);
        C.due("the tape is empty", x.count(3), 0);
        for (int i = 0; i < 10; i++) {
            x.feed(0, 0, 0, 0, 0);
        }
        C.due("n 13", x.check(0, 13), -2);
        C.due("n 12", x.check(0, 12), 2);
    }
}
