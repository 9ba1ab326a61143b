/** Each sentence that names a boundary: section 1 of the terms, promises 1 to 6, 12, 59 and 60. */
public final class BoundsOfDaysTest {
    private static final Checks C = new Checks("BoundsOfDaysTest");
    private static final int MIN = Integer.MIN_VALUE;
    private static final int MAX = Integer.MAX_VALUE;

    public static void main(String[] args) {
        nothingIsThereAtFirst();
        memoryIsTheFirmsOwn();
        nowIsADay();
        nowIsNotPast();
        kitchenHasAPlace();
        kitchenGivesLitresADay();
        kitchenHasADrum();
        kitchensAreTen();
        emptiedAtFirstOnDayZero();
        emptiedByEachFetch();
        likelyIsOfKitchensAndDays();
        likelyFromTheDayOfTheLastFetch();
        likelyIsAtMostTheDrum();
        fetchIsOfAKitchen();
        fetchIsUpToNow();
        fetchIsNotAheadOfTheLatest();
        fetchHasLitresWaterAcid();
        fetchIsToldFromItsOwnDay();
        loadsAreSixty();
        knownByThen();
        missingIsOfALoad();
        missingIsLessATenth();
        missingIsNotBelowZero();
        missingIsByTheFetchAhead();
        tapeHoldsTwoHundred();
        tapeTakesTheHighestByteFirst();
        tapeHasBytesOfNoSign();
        tapeForgets();
        checkIsOfAKitchenAndBytes();
        checkTellsTheFirstWrongNumber();
        checkOfSomeLackingOrTooMany();
        checkReadsAllFourBytes();
        countOfAll();
        countOfKitchens();
        countOfBatchesAndProofs();
        C.end();
    }

    private static void nothingIsThereAtFirst() {
        OilHome x = new OilHome();
        for (int what = 0; what < 10; what++) {
            C.due("count at first " + what, x.count(what), 0);
        }
        for (int what = 10; what < 90; what++) {
            C.due("count at first " + what, x.count(what), -1);
        }
        C.due("no kitchen", x.likely(0, 0), -1);
        C.due("no load", x.missing(0), -1);
        C.due("no contract of a kitchen that is not there", x.contract(0, 0), -1);
        C.due("no batch", x.batchIs(0, 0), -1);
        C.due("no proof", x.tax(0), -1);
        C.due("no sewer", x.blocked(0), -1);
        C.no("no lorry", x.off(0, 0, true));
        C.due("no drum", x.stood(0, 0), -1);
        C.due("nothing in stock", x.stock(399), 0);
        C.yes("the day is 0", x.now(0));
    }

    private static void memoryIsTheFirmsOwn() {
        OilHome x = Firms.batch(50);
        OilHome y = new OilHome();
        x.now(9);
        x.price(0, 5);
        x.proof(0, 0, 1, 0);
        x.sewer(0, 0);
        x.lorry(20);
        x.drum();
        x.thefts(0, 5);
        x.degrees(0, 5);
        Checks.law(x, "l(1=2)");
        x.feed(1, 2, 3, 4, 5);
        for (int what = 0; what < 10; what++) {
            C.due("count of another firm " + what, y.count(what), 0);
        }
        C.due("its thefts", y.lock(12, 1), 0);
        C.due("its degrees", y.first(0, 15), 0);
        C.due("its first kitchen", y.kitchen(0, 0, 10, 100), 0);
        C.due("its first load", y.fetch(0, 0, 5, 0, 0, 0), 0);
        Checks.contract(y, 0, "po+q(1=1)");
        C.due("its price", y.pence(0), 5);
        C.due("its law: none", y.batch(1), 0);
        C.due("the first firm's batches", x.count(5), 1);
        C.due("the first firm's litres", x.batchIs(0, 0), 50);
        C.due("the first firm's contract", x.count(10), 0);
        C.due("the first firm's tape", x.count(3), 20);
    }

    // ---- now

    private static void nowIsADay() {
        C.bounds("now", 0, 399, 1, 0, day -> Checks.of(new OilHome().now(day)));
        C.due("0 at first", new OilHome().count(0), 0);
        C.due("the last day", Firms.on(399).count(0), 399);
        C.bounds("now on 399", 399, 399, 1, 0, day -> Checks.of(Firms.on(399).now(day)));
    }

    private static void nowIsNotPast() {
        C.bounds("now on 5", 5, 399, 1, 0, day -> Checks.of(Firms.on(5).now(day)));
        OilHome x = Firms.on(5);
        C.no("past", x.now(4));
        C.due("stays", x.count(0), 5);
        C.no("400", x.now(400));
        C.due("stays", x.count(0), 5);
        C.yes("the same", x.now(5));
        C.due("stays", x.count(0), 5);
        C.yes("the next", x.now(6));
        C.due("the next", x.count(0), 6);
    }

    // ---- kitchens

    private static void kitchenHasAPlace() {
        C.bounds("x", 0, 99, 0, -1, v -> new OilHome().kitchen(v, 0, 0, 20));
        C.bounds("y", 0, 99, 0, -1, v -> new OilHome().kitchen(0, v, 0, 20));
        C.bounds("x, y 99", 0, 99, 0, -1, v -> new OilHome().kitchen(v, 99, 50, 400));
        C.bounds("y, x 99", 0, 99, 0, -1, v -> new OilHome().kitchen(99, v, 50, 400));
    }

    private static void kitchenGivesLitresADay() {
        C.bounds("litres a day", 0, 50, 0, -1, v -> new OilHome().kitchen(0, 0, v, 20));
        OilHome x = new OilHome();
        x.kitchen(0, 0, 0, 400);
        x.kitchen(0, 0, 50, 400);
        C.due("0 a day", x.likely(0, 399), 0);
        C.due("50 a day", x.likely(1, 1), 50);
    }

    private static void kitchenHasADrum() {
        C.bounds("drum", 20, 400, 0, -1, v -> new OilHome().kitchen(0, 0, 0, v));
        OilHome x = new OilHome();
        x.kitchen(0, 0, 50, 20);
        x.kitchen(0, 0, 50, 400);
        C.due("a drum of 20", x.likely(0, 399), 20);
        C.due("a drum of 400", x.likely(1, 399), 400);
    }

    private static void kitchensAreTen() {
        OilHome x = new OilHome();
        C.due("refused", x.kitchen(0, 0, 0, 19), -1);
        for (int k = 0; k < 10; k++) {
            C.due("kitchen " + k, x.kitchen(k, 9 - k, 50, 20), k);
            C.due("kitchens", x.count(1), k + 1);
        }
        C.due("an eleventh", x.kitchen(0, 0, 50, 20), -1);
        C.due("kitchens", x.count(1), 10);
        C.bounds("likely of", 0, 9, 0, -1, k -> x.likely(k, 0));
    }

    private static void emptiedAtFirstOnDayZero() {
        OilHome x = Firms.kitchensOn(300, 1);
        C.due("emptied on", x.count(20), 0);
        C.due("on day 0", x.likely(0, 0), 0);
        C.due("on day 1", x.likely(0, 1), 10);
        OilHome y = Firms.on(300);
        y.kitchen(0, 0, 10, 100);
        C.due("made later: emptied on", y.count(20), 0);
        C.due("made later: on day 0", y.likely(0, 0), 0);
        C.due("made later: on day 1", y.likely(0, 1), 10);
        C.due("made later: fetched on day 0", y.fetch(0, 0, 1, 0, 0, 0), 0);
    }

    private static void emptiedByEachFetch() {
        OilHome x = Firms.kitchensOn(9, 2);
        x.fetch(0, 0, 0, 0, 0, 0);
        C.due("on day 0", x.count(20), 0);
        x.fetch(0, 9, 0, 0, 0, 399);
        C.due("on day 9, though it is not known, and without litres", x.count(20), 9);
        C.due("not another", x.count(21), 0);
        C.due("ahead of the latest", x.fetch(0, 8, 0, 0, 0, 8), -1);
        C.due("stays", x.count(20), 9);
    }

    // ---- likely

    private static void likelyIsOfKitchensAndDays() {
        C.bounds("likely of", 0, 1, 10, -1, k -> Firms.kitchens(2).likely(k, 1));
        C.bounds("likely on", 0, 399, 0, -1, day -> Firms.places(0, 0).likely(0, day));
        C.due("no kitchens", new OilHome().likely(0, 0), -1);
    }

    private static void likelyFromTheDayOfTheLastFetch() {
        OilHome x = Firms.kitchensOn(20, 2);
        x.fetch(0, 3, 0, 0, 0, 3);
        x.fetch(0, 12, 0, 0, 0, 12);
        C.due("on 11", x.likely(0, 11), -1);
        C.due("on 12", x.likely(0, 12), 0);
        C.due("on 13", x.likely(0, 13), 10);
        C.due("ahead of now", x.likely(0, 21), 90);
        C.due("on 399", x.likely(0, 399), 100);
        C.due("another on 11", x.likely(1, 11), 100);
        OilHome y = Firms.on(399);
        y.kitchen(0, 0, 50, 20);
        y.fetch(0, 399, 0, 0, 0, 399);
        C.bounds("emptied on the last day", 399, 399, 0, -1, day -> y.likely(0, day));
    }

    private static void likelyIsAtMostTheDrum() {
        OilHome x = new OilHome();
        x.kitchen(0, 0, 10, 30);
        x.kitchen(0, 0, 10, 29);
        x.kitchen(0, 0, 10, 31);
        C.due("as much as the drum", x.likely(0, 3), 30);
        C.due("a litre more than the drum", x.likely(1, 3), 29);
        C.due("a litre less than the drum", x.likely(2, 3), 30);
        C.due("the next day", x.likely(0, 4), 30);
        C.due("the next day", x.likely(2, 4), 31);
        C.due("one day ahead", x.likely(0, 2), 20);
        C.due("one day ahead", x.likely(1, 2), 20);
    }

    // ---- fetches

    private static void fetchIsOfAKitchen() {
        C.bounds("fetch of", 0, 1, 0, -1, k -> Firms.kitchens(2).fetch(k, 0, 1, 0, 0, 0));
        C.due("no kitchens", new OilHome().fetch(0, 0, 1, 0, 0, 0), -1);
    }

    private static void fetchIsUpToNow() {
        C.bounds("fetch on, now 0", 0, 0, 0, -1, day -> Firms.kitchens(1).fetch(0, day, 1, 0, 0, 399));
        C.bounds("fetch on, now 10", 0, 10, 0, -1, day -> Firms.kitchensOn(10, 1).fetch(0, day, 1, 0, 0, 399));
        C.bounds("fetch on, now 399", 0, 399, 0, -1, day -> Firms.kitchensOn(399, 1).fetch(0, day, 1, 0, 0, 399));
    }

    private static OilHome fetchedOn(int day, int now) {
        OilHome x = Firms.kitchensOn(now, 2);
        x.fetch(0, day, 1, 0, 0, day);
        return x;
    }

    private static void fetchIsNotAheadOfTheLatest() {
        C.bounds("fetch behind 5, now 9", 5, 9, 1, -1, day -> fetchedOn(5, 9).fetch(0, day, 1, 0, 0, 399));
        C.bounds("fetch behind 9, now 9", 9, 9, 1, -1, day -> fetchedOn(9, 9).fetch(0, day, 1, 0, 0, 399));
        C.bounds("fetch of another kitchen", 0, 9, 1, -1, day -> fetchedOn(5, 9).fetch(1, day, 1, 0, 0, 399));
    }

    private static void fetchHasLitresWaterAcid() {
        C.bounds("litres", 0, 400, 0, -1, v -> Firms.kitchens(1).fetch(0, 0, v, 0, 0, 0));
        C.bounds("water", 0, 1000, 0, -1, v -> Firms.kitchens(1).fetch(0, 0, 0, v, 0, 0));
        C.bounds("acid", 0, 1000, 0, -1, v -> Firms.kitchens(1).fetch(0, 0, 0, 0, v, 0));
        C.bounds("litres, all else greatest", 0, 400, 0, -1, v -> Firms.kitchens(1).fetch(0, 0, v, 1000, 1000, 399));
        C.due("more litres than the drum has", Firms.kitchens(1).fetch(0, 0, 101, 0, 0, 0), 0);
    }

    private static void fetchIsToldFromItsOwnDay() {
        C.bounds("told, on 0", 0, 399, 0, -1, told -> Firms.kitchens(1).fetch(0, 0, 1, 0, 0, told));
        C.bounds("told, on 5", 5, 399, 0, -1, told -> Firms.kitchensOn(9, 1).fetch(0, 5, 1, 0, 0, told));
        C.bounds("told, on 399", 399, 399, 0, -1, told -> Firms.kitchensOn(399, 1).fetch(0, 399, 1, 0, 0, told));
    }

    private static void loadsAreSixty() {
        OilHome x = Firms.kitchens(10);
        C.due("refused", x.fetch(0, 0, 401, 0, 0, 0), -1);
        for (int i = 0; i < 60; i++) {
            C.due("load " + i, x.fetch(i % 10, 0, i, 0, 0, 0), i);
        }
        C.due("a 61st", x.fetch(0, 0, 1, 0, 0, 0), -1);
        C.due("a 61st, of another", x.fetch(9, 0, 1, 0, 0, 0), -1);
        C.due("loads", x.count(2), 60);
        C.due("all of them, and no more", x.stock(0), 59 * 30);
    }

    private static void knownByThen() {
        OilHome x = Firms.kitchens(1);
        x.fetch(0, 0, 7, 0, 0, 4);
        Checks.contract(x, 0, "pq(1=1)");
        C.due("the day ahead", x.paid(0, 3), 0);
        C.due("the day it is told", x.paid(0, 4), 7);
        x.now(3);
        C.due("no blend the day ahead", x.blend(), 0);
        C.due("no batch the day ahead", x.batch(1), -1);
        x.now(4);
        C.due("a blend that day", x.blend(), 1);
        C.due("a batch that day", x.batch(1), 0);
    }

    // ---- missing

    private static void missingIsOfALoad() {
        C.bounds("missing of", 0, 1, 0, -1, i -> Firms.loads(5, 5).missing(i));
        C.due("no loads", Firms.kitchens(1).missing(0), -1);
    }

    private static int missingBy(int likely, int litres) {
        OilHome x = Firms.on(likely);
        x.kitchen(0, 0, 1, 400);
        x.fetch(0, likely, litres, 0, 0, likely);
        return x.missing(0);
    }

    private static void missingIsLessATenth() {
        int[][] due = {{0, 0}, {1, 1}, {9, 9}, {10, 9}, {11, 10}, {19, 18}, {20, 18}, {99, 90}, {100, 90}, {399, 360}};
        for (int[] row : due) {
            C.due("of " + row[0] + " likely", missingBy(row[0], 0), row[1]);
        }
    }

    private static void missingIsNotBelowZero() {
        C.due("20 less 17 less 2", missingBy(20, 17), 1);
        C.due("20 less 18 less 2", missingBy(20, 18), 0);
        C.due("20 less 19 less 2", missingBy(20, 19), 0);
        C.due("20 less 400 less 2", missingBy(20, 400), 0);
        C.due("0 less 400", missingBy(0, 400), 0);
    }

    private static void missingIsByTheFetchAhead() {
        OilHome x = Firms.kitchensOn(9, 2);
        x.fetch(0, 4, 0, 0, 0, 4);
        x.fetch(0, 4, 0, 0, 0, 4);
        x.fetch(1, 9, 0, 0, 0, 9);
        x.fetch(0, 5, 0, 0, 0, 5);
        C.due("since day 0", x.missing(0), 36);
        C.due("on the same day", x.missing(1), 0);
        C.due("of another, since day 0", x.missing(2), 81);
        C.due("since day 4", x.missing(3), 9);
        OilHome y = Firms.kitchensOn(399, 1);
        y.fetch(0, 399, 0, 0, 0, 399);
        C.due("at most the drum", y.missing(0), 90);
    }

    // ---- the tape

    private static void tapeHoldsTwoHundred() {
        OilHome x = Firms.kitchens(1);
        Checks.feedText(x, "pq(1=1);pf(1=1)");
        for (int n = 2; n <= 10; n++) {
            C.due("feed " + n, x.feed(-1, MIN, MAX, 0, n), 20 * n);
        }
        C.due("an 11th", x.feed(0, 0, 0, 0, 0), -1);
        C.due("the tape stays", x.count(3), 200);
        C.due("and what is on it", x.contract(0, 15), 2);
        C.due("empty", x.count(3), 0);
        C.due("from its start again", x.feed(0, 0, 0, 0, 0), 20);
    }

    private static void tapeTakesTheHighestByteFirst() {
        OilHome x = Firms.places(1, 0, 2, 0, 4, 0, 8, 0, 16, 0, 32, 0, 64, 0);
        x.feed(0x00010203, 0x04050600, 0x01020304, 0x05060001, 0x02030405);
        C.due("1, 2, 4", x.driven(3), 8);
        x.feed(0x03010200, 0x04050600, 0x01020304, 0x05060001, 0x02030405);
        C.due("8", x.driven(1), 16);
        int[] places = {6, 0, 5, 1, 4, 2, 3, 6, 6, 0, 1, 5, 2, 4, 3, 3, 0, 6, 2, 5};
        int[] at = {1, 2, 4, 8, 16, 32, 64};
        int length = 0;
        int from = 0;
        for (int n = 0; n <= 20; n++) {
            x.feed(0x06000501, 0x04020306, 0x06000105, 0x02040303, 0x00060205);
            C.due("driven by the first " + n, x.driven(n), length + from);
            if (n < 20) {
                length += Math.abs(at[places[n]] - from);
                from = at[places[n]];
            }
        }
        C.due("five ints, the first ahead", Checks.feedText(x, "p1+2-3*4/5%6(q=f&a)d"), 20);
        C.due("all twenty in their row", x.contract(0, 20), -1018);
    }

    /** A byte is 0 to 255, whatever sign its int has. */
    private static void tapeHasBytesOfNoSign() {
        OilHome x = Firms.places(1, 0);
        x.feed(0x80000000, 0, 0, 0, 0);
        C.due("byte 128 is no kitchen", x.driven(1), -1);
        x.feed(-1, 0, 0, 0, 0);
        C.due("byte 255 is no kitchen", x.driven(1), -1);
        x.feed(0x00FFFFFF, 0, 0, 0, 0);
        C.due("byte 0 is one", x.driven(1), 2);
        x.feed(0xF0712831, 0x3D312900, 0, 0, 0);
        C.due("p and 128 is no p", x.contract(0, 7), -1000);
        x.feed(0x70712831, 0x3DB12900, 0, 0, 0);
        C.due("1 and 128 is no digit", x.contract(0, 7), -1005);
        x.feed(0x70712831, 0x3D312900, 0, 0, 0);
        C.due("a text", x.contract(0, 7), 1);
        x.feed(0x70712831, 0x3D312900, 0, 0, 0);
        C.due("byte 0 can't stand there", x.contract(0, 8), -1007);
    }

    private static void tapeForgets() {
        OilHome x = Firms.kitchens(1);
        Checks.feedText(x, "p1(1=1);p2(1=1);p3(1=1)");
        C.due("empty, though 40 bytes were there", x.contract(0, 7), 1);
        C.due("empty", x.count(3), 0);
        C.due("what was there is not", x.contract(0, 7), -1);
        x.feed(0, 0, 0, 0, 0);
        C.due("what was there is not", x.contract(0, 21), -1);
        C.due("nor in its first bytes", x.contract(0, 20), -1000);
    }

    // ---- check

    private static OilHome checked(int feeds) {
        OilHome x = Firms.loads(5, 5);
        x.kitchen(0, 0, 10, 100);
        for (int i = 0; i < feeds; i++) {
            x.feed(9, 9, 9, 9, 9);
        }
        return x;
    }

    private static void checkIsOfAKitchenAndBytes() {
        C.bounds("check of", 0, 1, 0, -2, k -> checked(1).check(k, 1));
        C.bounds("n of 200 bytes", 0, 12, 0, -2, n -> checked(10).check(0, n));
        C.bounds("n of 60 bytes", 0, 3, 0, -2, n -> checked(3).check(0, n));
        C.bounds("n of 20 bytes", 0, 1, 0, -2, n -> checked(1).check(0, n));
        C.bounds("n of nothing", 0, 0, 0, -2, n -> checked(0).check(0, n));
        OilHome x = checked(10);
        for (int n : new int[] {-1, 13, MIN, MAX, 1 << 28, (1 << 28) + 1, 1 << 30, (1 << 30) + 1}) {
            C.due("check of " + n, x.check(0, n), -2);
        }
        C.due("no kitchen", x.check(2, 1), -2);
        C.due("the tape stays", x.count(3), 200);
        C.due("check of 12", x.check(0, 12), 0);
        C.due("empty", x.count(3), 0);
        x.feed(0, 0, 0, 0, 0);
        C.due("check of no numbers", x.check(0, 0), 0);
        C.due("empty, too", x.count(3), 0);
    }

    private static void checkTellsTheFirstWrongNumber() {
        OilHome x = Firms.kitchensOn(9, 2);
        x.fetch(1, 3, 5, 0, 0, 399);
        x.fetch(0, 3, 5, 0, 0, 3);
        x.fetch(1, 9, 40, 0, 0, 9);
        int[] right = {0, 3, 5, 22, 2, 9, 40, 14};
        C.due("right", Checks.check(x, 1, right), -1);
        for (int i = 0; i < 8; i++) {
            for (int by : new int[] {1, -1}) {
                int[] wrong = right.clone();
                wrong[i] += by;
                C.due("number " + i + " by " + by, Checks.check(x, 1, wrong), i);
                wrong[7] = 15;
                C.due("number " + i + " ahead of the last", Checks.check(x, 1, wrong), Math.min(i, 7));
            }
        }
        C.due("those of another", Checks.check(x, 1, 1, 3, 5, 22), 0);
        C.due("its own", Checks.check(x, 0, 1, 3, 5, 22), -1);
    }

    private static void checkOfSomeLackingOrTooMany() {
        OilHome x = Firms.kitchens(2);
        x.fetch(0, 0, 5, 0, 0, 0);
        x.fetch(0, 0, 6, 0, 0, 0);
        C.due("all lacking", Checks.check(x, 0), 0);
        C.due("one lacking", Checks.check(x, 0, 0, 0, 5, 0), 4);
        C.due("none lacking", Checks.check(x, 0, 0, 0, 5, 0, 1, 0, 6, 0), -1);
        C.due("one too many", Checks.check(x, 0, 0, 0, 5, 0, 1, 0, 6, 0, 2, 0, 7, 0), 8);
        C.due("a wrong one ahead of those that lack", Checks.check(x, 0, 0, 0, 5, 1), 3);
        C.due("a wrong one ahead of one too many", Checks.check(x, 0, 0, 0, 5, 0, 1, 0, 7, 0, 2, 0, 7, 0), 6);
        C.due("a kitchen without loads", Checks.check(x, 1), -1);
        C.due("a kitchen without loads, one too many", Checks.check(x, 1, 0, 0, 5, 0), 0);
        OilHome y = Firms.loads(new int[12]);
        int[] twelve = new int[48];
        for (int i = 0; i < 12; i++) {
            twelve[4 * i] = i;
        }
        C.due("as many as the tape holds", Checks.check(y, 0, twelve), -1);
        twelve[47] = 1;
        C.due("the last number", Checks.check(y, 0, twelve), 47);
        y.fetch(0, 0, 0, 0, 0, 0);
        twelve[47] = 0;
        C.due("a 13th is lacking", Checks.check(y, 0, twelve), 48);
    }

    private static void checkReadsAllFourBytes() {
        OilHome x = Firms.on(300);
        x.kitchen(0, 0, 50, 400);
        x.fetch(0, 300, 40, 0, 0, 300);
        C.due("right: 300, 40, 320", Checks.check(x, 0, 0, 300, 40, 320), -1);
        int[] right = {0, 300, 40, 320};
        for (int i = 0; i < 4; i++) {
            for (int bit = 0; bit < 32; bit++) {
                int[] wrong = right.clone();
                wrong[i] ^= 1 << bit;
                C.due("number " + i + ", bit " + bit, Checks.check(x, 0, wrong), i);
            }
        }
    }

    // ---- counts

    private static void countOfAll() {
        OilHome x = Firms.batch(5);
        x.now(3);
        x.proof(0, 0, 1, 0);
        x.sewer(0, 0);
        x.lorry(20);
        x.drum();
        Checks.law(x, "l(1=1);l(1=1)");
        x.feed(0, 0, 0, 0, 0);
        int[] due = {3, 1, 1, 20, 2, 1, 1, 1, 1, 1};
        for (int what = 0; what < 10; what++) {
            C.due("count(" + what + ")", x.count(what), due[what]);
        }
        for (int what : new int[] {-1, -2, -10, MIN, MAX, 90, 91, 100, 1000}) {
            C.due("count(" + what + ")", x.count(what), -1);
        }
    }

    private static void countOfKitchens() {
        OilHome x = Firms.kitchens(9);
        for (int tens = 10; tens < 40; tens += 10) {
            C.due("of the first", x.count(tens), 0);
            C.due("of the ninth", x.count(tens + 8), 0);
            C.due("of a tenth that is not there", x.count(tens + 9), -1);
        }
        x.kitchen(0, 0, 10, 100);
        x.now(7);
        x.fetch(9, 7, 1, 0, 0, 7);
        x.street(9, 9);
        Checks.contract(x, 9, "p1(1=1)" + Checks.times(";p1(1=1)", 11));
        C.due("clauses of 9", x.count(19), 12);
        C.due("emptied 9", x.count(29), 7);
        C.due("street of 9", x.count(39), 9);
        C.due("clauses of 8", x.count(18), 0);
        C.due("emptied 8", x.count(28), 0);
        C.due("street of 8", x.count(38), 0);
        C.due("clauses of 0", x.count(10), 0);
        C.due("emptied 0", x.count(20), 0);
        C.due("street of 0", x.count(30), 0);
    }

    private static void countOfBatchesAndProofs() {
        OilHome x = Firms.loads(new int[10]);
        OilHome y = Firms.batch(5);
        for (int b = 0; b < 10; b++) {
            C.due("no batch " + b, x.count(40 + b), -1);
            x.now(b + 1);
            x.batch(1 << b);
            C.due("batch " + b, x.count(40 + b), b + 1);
        }
        for (int p = 0; p < 40; p++) {
            C.due("no proof " + p, y.count(50 + p), -1);
            y.now(p + 2);
            y.proof(0, 0, 1, 0);
            C.due("proof " + p, y.count(50 + p), p + 2);
        }
        C.due("behind the last proof", y.count(90), -1);
        C.due("batch 0 of the other", y.count(40), 0);
        C.due("no proof of the first", x.count(50), -1);
    }
}
