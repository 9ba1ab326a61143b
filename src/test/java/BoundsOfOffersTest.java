/** Each sentence that names a boundary of offers, thefts, sewers, winter, feasts and drums: promises 22 to 32 and 41 to 46. */
public final class BoundsOfOffersTest {
    private static final Checks C = new Checks("BoundsOfOffersTest");
    private static final int MIN = Integer.MIN_VALUE;
    private static final int MAX = Integer.MAX_VALUE;

    public static void main(String[] args) {
        offersOfAKitchen();
        comesForItsLeast();
        comesIfTheRivalGivesNotMore();
        worthOfAnOffer();
        worthMayBeBelowZero();
        offerOfAValue();
        offerOfEachPrice();
        offerOfLikeOnesTheLeast();
        theftsByHours();
        lockOfHours();
        lockGoesRound();
        lockOfLikeOnesTheLeast();
        sewerHasAPlace();
        sewersAreTen();
        blockedOnceMore();
        besideIsOfAWayAndATime();
        besideWithinAWay();
        besideSoOftenOrMore();
        besideOfThoseThatGiveNothing();
        degreesOfADay();
        degreesAtFirst();
        setsBelow();
        lateIsOfAKitchenAndADegree();
        lateOnSuchDays();
        firstIsOfADayAndADegree();
        firstFromADayOn();
        feastOfADay();
        feastedIsOfALoad();
        feastedOnEachDayBehindTheOneAhead();
        feastedRoundedDown();
        feastedAtMostTheDrum();
        shortByFeastsNotBelowZero();
        drumsAreTwenty();
        movesOfADrum();
        movesAreNotAheadOfTheLatest();
        movesAreSixty();
        stoodOnADay();
        stoodByWhatWasToldLast();
        staleIsOfDays();
        staleSoManyDaysAgoOrMore();
        C.end();
    }

    // ---- offers

    private static void offersOfAKitchen() {
        C.bounds("offers of", 0, 1, 1, 0, k -> Checks.of(Firms.kitchens(2).offers(k, 0, 0)));
        C.bounds("least", 0, 200, 1, 0, least -> Checks.of(Firms.kitchens(1).offers(0, least, 200)));
        C.bounds("rival", 0, 200, 1, 0, rival -> Checks.of(Firms.kitchens(1).offers(0, 200, rival)));
        C.no("no kitchens", new OilHome().offers(0, 0, 0));
    }

    private static void comesForItsLeast() {
        OilHome x = Firms.kitchens(1);
        C.due("0 at first", x.worth(0, 100), 1000);
        int[] leasts = {0, 1, 100, 199, 200};
        for (int least : leasts) {
            C.yes("least " + least, x.offers(0, least, 0));
            C.due("as much as " + least, x.worth(least, 1000), 10 * (1000 - least));
            if (least > 0) {
                C.due("one less than " + least, x.worth(least - 1, 1000), 0);
            }
            C.due("the most, by " + least, x.worth(200, 1000), 8000);
        }
        C.no("201", x.offers(0, 201, 0));
        C.due("stays", x.worth(199, 1000), 0);
        C.due("stays", x.worth(200, 1000), 8000);
    }

    private static void comesIfTheRivalGivesNotMore() {
        OilHome x = Firms.kitchens(1);
        int[] rivals = {0, 1, 100, 199, 200};
        for (int rival : rivals) {
            C.yes("rival " + rival, x.offers(0, 0, rival));
            C.due("as much as " + rival, x.worth(rival, 1000), 10 * (1000 - rival));
            if (rival > 0) {
                C.due("one less than " + rival, x.worth(rival - 1, 1000), 0);
            }
        }
        x.offers(0, 50, 60);
        C.due("its least, but the rival gives more", x.worth(50, 100), 0);
        C.due("its least, but the rival gives one more", x.worth(59, 100), 0);
        C.due("both", x.worth(60, 100), 400);
        x.offers(0, 60, 50);
        C.due("more than the rival, but not its least", x.worth(59, 100), 0);
        C.due("both", x.worth(60, 100), 400);
        C.no("rival 201", x.offers(0, 0, 201));
        C.due("stays", x.worth(59, 100), 0);
    }

    private static void worthOfAnOffer() {
        C.bounds("worth of p", 0, 200, 0, -1000000, p -> new OilHome().worth(p, 0));
        C.bounds("worth of value", 0, 1000, 0, -1000000, value -> new OilHome().worth(0, value));
        C.due("neither", new OilHome().worth(201, 1001), -1000000);
        C.due("none comes", new OilHome().worth(200, 1000), 0);
        OilHome x = new OilHome();
        for (int k = 0; k < 10; k++) {
            x.kitchen(0, 0, 50, 20);
        }
        C.due("most", x.worth(0, 1000), 500000);
        C.due("least", x.worth(200, 0), -100000);
    }

    private static void worthMayBeBelowZero() {
        OilHome x = Firms.kitchens(1);
        C.due("as much as it is worth", x.worth(100, 100), 0);
        C.due("one more", x.worth(101, 100), -10);
        C.due("one less", x.worth(99, 100), 10);
    }

    private static void offerOfAValue() {
        C.bounds("offer of value", 0, 1000, 0, -1, value -> new OilHome().offer(value, 0));
        C.bounds("offer what", 0, 2, 0, -1, what -> new OilHome().offer(1000, what));
        OilHome x = new OilHome();
        for (int k = 0; k < 10; k++) {
            x.kitchen(0, 0, 1, 20);
            x.offers(k, 200, 0);
        }
        C.due("the greatest p", x.offer(1000, 0), 200);
        C.due("its worth", x.offer(1000, 1), 8000);
        C.due("all come", x.offer(1000, 2), 1023);
        C.due("none for 200 and less: p 0", x.offer(200, 0), 0);
        C.due("worth 0", x.offer(200, 1), 0);
        C.due("none comes", x.offer(200, 2), 0);
        C.due("one more than 200", x.offer(201, 0), 200);
        C.due("worth 10", x.offer(201, 1), 10);
        x.offers(9, 0, 0);
        C.due("one for nothing", x.offer(200, 0), 0);
        C.due("its worth", x.offer(200, 1), 200);
        C.due("it alone", x.offer(200, 2), 512);
    }

    private static void offerOfEachPrice() {
        OilHome x = Firms.kitchens(1);
        for (int p = 0; p <= 200; p++) {
            x.offers(0, p, p / 2);
            C.due("the least for which it comes", x.offer(1000, 0), p);
        }
        OilHome y = Firms.kitchens(1);
        for (int p = 0; p <= 200; p++) {
            y.offers(0, p / 2, p);
            C.due("what the rival gives", y.offer(201, 1), 10 * (201 - p));
        }
    }

    private static void offerOfLikeOnesTheLeast() {
        OilHome x = new OilHome();
        x.kitchen(0, 0, 1, 20);
        x.kitchen(0, 0, 1, 20);
        x.offers(0, 10, 0);
        x.offers(1, 0, 20);
        C.due("10 and 20 are alike", x.worth(10, 30), x.worth(20, 30));
        C.due("the least", x.offer(30, 0), 10);
        C.due("its worth", x.offer(30, 1), 20);
        C.due("who comes", x.offer(30, 2), 1);
        C.due("20 is greater", x.offer(31, 0), 20);
        C.due("its worth", x.offer(31, 1), 22);
        C.due("both come", x.offer(31, 2), 3);
        C.due("10 is greater", x.offer(29, 0), 10);
        OilHome y = Firms.places(0, 0, 1, 1);
        C.due("all of worth 0", y.offer(1000, 0), 0);
        C.due("both come, giving nothing", y.offer(1000, 2), 3);
    }

    // ---- thefts

    private static void theftsByHours() {
        C.bounds("thefts at", 0, 23, 1, 0, hour -> Checks.of(new OilHome().thefts(hour, 0)));
        C.bounds("thefts", 0, 1000, 1, 0, n -> Checks.of(new OilHome().thefts(23, n)));
        OilHome x = new OilHome();
        C.due("0 at first", x.lock(12, 1), 0);
        for (int hour = 0; hour < 24; hour++) {
            x.thefts(hour, 1000);
            C.due("hour " + hour, x.lock(1, 0), hour);
            C.due("its thefts", x.lock(1, 1), 1000);
            C.no("1001", x.thefts(hour, 1001));
            C.due("stays", x.lock(1, 1), 1000);
            C.yes("none", x.thefts(hour, 0));
            C.due("none", x.lock(1, 1), 0);
        }
    }

    private static void lockOfHours() {
        C.bounds("lock of", 1, 12, 0, -1, h -> new OilHome().lock(h, 0));
        C.bounds("lock what", 0, 1, 0, -1, what -> new OilHome().lock(12, what));
        OilHome x = new OilHome();
        for (int hour = 0; hour < 24; hour++) {
            x.thefts(hour, 1);
        }
        for (int h = 1; h <= 12; h++) {
            C.due("saves " + h, x.lock(h, 1), h);
            C.due("from", x.lock(h, 0), 0);
        }
    }

    /** A theft at the end of twelve hours, and one at their start: only from there on both are in. */
    private static void lockGoesRound() {
        for (int from = 0; from < 24; from++) {
            OilHome x = new OilHome();
            x.thefts(from, 5);
            x.thefts((from + 11) % 24, 6);
            C.due("from " + from, x.lock(12, 0), from);
            C.due("both", x.lock(12, 1), 11);
            C.due("one hour less", x.lock(11, 1), 6);
            x.thefts((from + 12) % 24, 7);
            C.due("one hour later", x.lock(12, 0), (from + 1) % 24 == 0 ? 0 : leastFrom(from + 1, from + 11));
            C.due("the later ones", x.lock(12, 1), 13);
        }
    }

    /** Twelve hours from any of these on have the last two of them: the least is told. */
    private static int leastFrom(int first, int last) {
        int least = 23;
        for (int hour = first; hour <= last; hour++) {
            least = Math.min(least, hour % 24);
        }
        return least;
    }

    private static void lockOfLikeOnesTheLeast() {
        OilHome x = new OilHome();
        C.due("all alike", x.lock(5, 0), 0);
        x.thefts(23, 4);
        C.due("one hour", x.lock(1, 0), 23);
        C.due("two hours: 22 and 23", x.lock(2, 0), 22);
        C.due("twelve hours", x.lock(12, 0), 12);
        x.thefts(7, 4);
        C.due("of like ones 7", x.lock(1, 0), 7);
        C.due("two hours", x.lock(2, 0), 6);
        C.due("eight hours, but not round", x.lock(8, 0), 0);
        C.due("eight hours", x.lock(8, 1), 4);
        C.due("nine hours, round", x.lock(9, 0), 23);
        C.due("nine hours", x.lock(9, 1), 8);
        C.due("ten hours, round", x.lock(10, 0), 22);
        x.thefts(0, 1);
        C.due("two hours, round", x.lock(2, 0), 23);
        C.due("two hours", x.lock(2, 1), 5);
    }

    // ---- sewers

    private static void sewerHasAPlace() {
        C.bounds("sewer x", 0, 99, 0, -1, v -> new OilHome().sewer(v, 99));
        C.bounds("sewer y", 0, 99, 0, -1, v -> new OilHome().sewer(99, v));
    }

    private static void sewersAreTen() {
        OilHome x = new OilHome();
        C.due("refused", x.sewer(100, 0), -1);
        for (int i = 0; i < 10; i++) {
            C.due("sewer " + i, x.sewer(0, 0), i);
            C.due("sewers", x.count(7), i + 1);
        }
        C.due("an eleventh", x.sewer(0, 0), -1);
        C.due("sewers", x.count(7), 10);
        C.bounds("first time", 0, 9, 1, -1, i -> x.blocked(i));
    }

    private static void blockedOnceMore() {
        OilHome x = new OilHome();
        for (int i : new int[] {-1, 0, 1, MIN, MAX}) {
            C.due("no sewer " + i, x.blocked(i), -1);
        }
        x.sewer(0, 0);
        x.sewer(0, 0);
        for (int n = 1; n <= 5; n++) {
            C.due("once more", x.blocked(0), n);
        }
        C.due("another", x.blocked(1), 1);
        C.due("no sewer 2", x.blocked(2), -1);
        C.due("once more", x.blocked(0), 6);
    }

    private static void besideIsOfAWayAndATime() {
        C.bounds("beside way", 0, 198, 0, -1, way -> new OilHome().beside(way, 1));
        C.bounds("beside often", 1, 1000, 0, -1, often -> new OilHome().beside(0, often));
    }

    private static void besideWithinAWay() {
        OilHome x = Firms.places(0, 0, 99, 99, 99, 0, 50, 50);
        x.sewer(0, 0);
        x.blocked(0);
        int[] ways = {0, 98, 99, 100, 101, 197, 198};
        int[] due = {1, 1, 5, 13, 13, 13, 15};
        for (int i = 0; i < ways.length; i++) {
            C.due("within " + ways[i], x.beside(ways[i], 1), due[i]);
        }
        OilHome y = Firms.places(99, 99, 10, 20);
        y.sewer(13, 16);
        y.blocked(0);
        C.due("within 6", y.beside(6, 1), 0);
        C.due("within 7: ways are x and y together", y.beside(7, 1), 2);
    }

    private static void besideSoOftenOrMore() {
        OilHome x = Firms.places(0, 0, 50, 50);
        x.sewer(0, 0);
        x.sewer(50, 50);
        C.due("never", x.beside(0, 1), 0);
        x.blocked(0);
        C.due("once", x.beside(0, 1), 1);
        C.due("not twice", x.beside(0, 2), 0);
        x.blocked(1);
        x.blocked(1);
        x.blocked(1);
        C.due("once or more", x.beside(0, 1), 3);
        C.due("twice or more", x.beside(0, 2), 2);
        C.due("three times", x.beside(0, 3), 2);
        C.due("not four times", x.beside(0, 4), 0);
        C.due("not once and three times", x.beside(198, 4), 0);
        C.due("not 1000 times", x.beside(198, 1000), 0);
    }

    private static void besideOfThoseThatGiveNothing() {
        OilHome x = new OilHome();
        int[] litres = {0, 1, 50, 0, 1, 0, 0, 0, 0, 0};
        for (int l : litres) {
            x.kitchen(5, 5, l, 20);
        }
        x.sewer(5, 5);
        C.due("a sewer that was not blocked", x.beside(198, 1), 0);
        x.blocked(0);
        C.due("those that give 0", x.beside(0, 1), 1023 - 2 - 4 - 16);
        C.due("no sewers", Firms.places(5, 5).beside(198, 1), 0);
    }

    // ---- winter

    private static void degreesOfADay() {
        C.bounds("degrees on", 0, 399, 1, 0, day -> Checks.of(new OilHome().degrees(day, 0)));
        C.bounds("degrees", -40, 40, 1, 0, n -> Checks.of(new OilHome().degrees(399, n)));
        OilHome x = new OilHome();
        C.yes("-40", x.degrees(399, -40));
        C.due("not below -40", x.first(399, -40), 399);
        C.due("below -39", x.first(399, -39), -2);
        C.yes("40", x.degrees(399, 40));
        C.due("not below 40", x.first(399, 40), 399);
        C.due("below 41", x.first(399, 41), -2);
        C.no("41", x.degrees(399, 41));
        C.no("-41", x.degrees(399, -41));
        C.due("stays", x.first(399, 40), 399);
    }

    private static void degreesAtFirst() {
        OilHome x = new OilHome();
        for (int day = 0; day < 400; day += 57) {
            C.due("15 on " + day, x.first(day, 15), day);
            C.due("not 16 on " + day, x.first(day, 16), -2);
        }
        C.due("15 on 399", x.first(399, 15), 399);
        C.due("not 16 on 399", x.first(399, 16), -2);
    }

    private static void setsBelow() {
        OilHome x = new OilHome();
        x.degrees(0, -3);
        x.degrees(1, 0);
        C.due("-3 is not below -3", x.first(0, -3), 0);
        C.due("-3 is below -2", x.first(0, -2), 1);
        C.due("0 is not below 0", x.first(0, 0), 1);
        C.due("0 is below 1", x.first(0, 1), 2);
    }

    private static void lateIsOfAKitchenAndADegree() {
        C.bounds("late of", 0, 1, 0, -1, k -> Firms.kitchens(2).late(k, 0));
        C.bounds("late below", -40, 41, 0, -1, below -> Firms.kitchens(1).late(0, below));
        C.due("no kitchens", new OilHome().late(0, 0), -1);
    }

    private static void lateOnSuchDays() {
        OilHome x = Firms.kitchensOn(399, 2);
        x.fetch(0, 0, 0, 0, 0, 399);
        x.fetch(0, 0, 0, 0, 0, 399);
        x.fetch(0, 5, 0, 0, 0, 399);
        x.fetch(0, 399, 0, 0, 0, 399);
        x.fetch(1, 5, 0, 0, 0, 399);
        x.degrees(0, -40);
        x.degrees(5, 40);
        x.degrees(399, 4);
        int[] below = {-40, -39, 4, 5, 40, 41};
        int[] due = {0, 2, 2, 3, 3, 4};
        for (int i = 0; i < below.length; i++) {
            C.due("late below " + below[i], x.late(0, below[i]), due[i]);
        }
        C.due("of another, not below 40", x.late(1, 40), 0);
        C.due("of another, below 41", x.late(1, 41), 1);
        x.degrees(0, 15);
        C.due("told anew", x.late(0, 5), 1);
    }

    private static void firstIsOfADayAndADegree() {
        C.bounds("first day from, none", 0, 399, -2, -1, day -> new OilHome().first(day, 16));
        int[] below = {MIN, -42, -41, -40, -39, 15, 16, 40, 41, 42, 43, MAX};
        int[] due = {-1, -1, -1, 7, 7, 7, -2, -2, -2, -1, -1, -1};
        for (int i = 0; i < below.length; i++) {
            C.due("first day below " + below[i], new OilHome().first(7, below[i]), due[i]);
        }
        for (int day : new int[] {0, 1, 398, 399}) {
            C.due("first day from " + day, new OilHome().first(day, 15), day);
        }
    }

    private static void firstFromADayOn() {
        OilHome x = new OilHome();
        for (int day = 10; day < 400; day++) {
            if (day != 200 && day != 399) {
                x.degrees(day, 0);
            }
        }
        int[] from = {0, 9, 10, 199, 200, 201, 398, 399};
        int[] due = {0, 9, 200, 200, 200, 399, 399, 399};
        for (int i = 0; i < from.length; i++) {
            C.due("from " + from[i], x.first(from[i], 1), due[i]);
        }
        x.degrees(399, 0);
        C.due("none from 201 on", x.first(201, 1), -2);
        C.due("none from 399 on", x.first(399, 1), -2);
        C.due("from 200 on", x.first(200, 1), 200);
    }

    // ---- feasts

    private static void feastOfADay() {
        C.bounds("feast on", 0, 399, 1, 0, day -> Checks.of(new OilHome().feast(day, 0)));
        C.bounds("feast", 0, 300, 1, 0, more -> Checks.of(new OilHome().feast(399, more)));
        OilHome x = Firms.kitchensOn(1, 1);
        x.fetch(0, 1, 0, 0, 0, 1);
        C.due("0 at first", x.feasted(0, 0), 10);
        C.yes("300", x.feast(1, 300));
        C.due("300 in the hundred more", x.feasted(0, 0), 40);
        C.no("301", x.feast(1, 301));
        C.no("-1", x.feast(1, -1));
        C.due("stays", x.feasted(0, 0), 40);
        C.yes("0", x.feast(1, 0));
        C.due("told anew", x.feasted(0, 0), 10);
    }

    private static void feastedIsOfALoad() {
        OilHome x = Firms.loads(5, 6);
        C.bounds("feasted of", 0, 1, 0, -1, i -> x.feasted(i, 0));
        C.bounds("feasted what", 0, 1, 0, -1, what -> x.feasted(1, what));
        C.due("no loads", Firms.kitchens(1).feasted(0, 0), -1);
    }

    private static void feastedOnEachDayBehindTheOneAhead() {
        OilHome x = new OilHome();
        x.kitchen(0, 0, 10, 400);
        x.now(399);
        x.fetch(0, 3, 0, 0, 0, 3);
        x.fetch(0, 5, 0, 0, 0, 5);
        x.fetch(0, 5, 0, 0, 0, 5);
        x.fetch(0, 399, 0, 0, 0, 399);
        int[] days = {0, 1, 2, 3, 4, 5, 6, 398, 399};
        int[] of = {-1, 0, 0, 0, 1, 1, -1, -1, -1};
        for (int i = 0; i < days.length; i++) {
            x.feast(days[i], 50);
            C.due("load 0 by " + days[i], x.feasted(0, 0), of[i] == 0 ? 35 : 30);
            C.due("load 1 by " + days[i], x.feasted(1, 0), of[i] == 1 ? 25 : 20);
            C.due("load 2, on the day of the one ahead", x.feasted(2, 0), 0);
            x.feast(days[i], 0);
        }
        OilHome y = Firms.kitchensOn(399, 1);
        y.fetch(0, 398, 0, 0, 0, 399);
        y.fetch(0, 399, 0, 0, 0, 399);
        y.feast(398, 100);
        C.due("the day of the one ahead is none", y.feasted(1, 0), 10);
        y.feast(399, 100);
        C.due("the last day", y.feasted(1, 0), 20);
    }

    private static void feastedRoundedDown() {
        OilHome x = new OilHome();
        x.kitchen(0, 0, 7, 400);
        x.kitchen(0, 0, 0, 400);
        x.now(3);
        x.fetch(0, 3, 0, 0, 0, 3);
        x.fetch(1, 3, 0, 0, 0, 3);
        int[] more = {0, 14, 15, 28, 29, 99, 100, 300};
        int[] due = {7, 7, 8, 8, 9, 13, 14, 28};
        for (int i = 0; i < more.length; i++) {
            x.feast(2, more[i]);
            C.due("7 and " + more[i] + " in the hundred", x.feasted(0, 0), 14 + due[i]);
            C.due("0 and " + more[i] + " in the hundred", x.feasted(1, 0), 0);
        }
        for (int day = 1; day < 4; day++) {
            x.feast(day, 10);
        }
        C.due("7.7 on each of three days", x.feasted(0, 0), 21);
    }

    private static void feastedAtMostTheDrum() {
        for (int drum = 39; drum <= 41; drum++) {
            OilHome x = new OilHome();
            x.kitchen(0, 0, 10, drum);
            x.now(3);
            x.fetch(0, 3, 0, 0, 0, 3);
            x.feast(3, 100);
            C.due("40 in a drum of " + drum, x.feasted(0, 0), Math.min(drum, 40));
        }
        OilHome y = new OilHome();
        y.kitchen(0, 0, 50, 20);
        y.now(399);
        y.fetch(0, 399, 0, 0, 0, 399);
        C.due("far more", y.feasted(0, 0), 20);
    }

    private static void shortByFeastsNotBelowZero() {
        for (int litres = 16; litres <= 20; litres++) {
            OilHome x = Firms.kitchensOn(1, 1);
            x.fetch(0, 1, litres, 0, 0, 1);
            x.feast(1, 99);
            C.due("19 less " + litres + " less 1", x.feasted(0, 1), Math.max(0, 18 - litres));
            x.feast(1, 100);
            C.due("20 less " + litres + " less 2", x.feasted(0, 1), Math.max(0, 18 - litres));
            C.due("missing stays", x.missing(0), 0);
        }
        OilHome y = Firms.loads(400);
        C.due("0 less 400", y.feasted(0, 1), 0);
    }

    // ---- drums

    private static void drumsAreTwenty() {
        OilHome x = new OilHome();
        for (int i = 0; i < 20; i++) {
            C.due("drum " + i, x.drum(), i);
            C.due("drums", x.count(9), i + 1);
        }
        C.due("a 21st", x.drum(), -1);
        C.due("drums", x.count(9), 20);
        C.bounds("stood", 0, 19, -2, -1, i -> x.stood(i, 0));
    }

    private static void movesOfADrum() {
        C.bounds("moves of two", 0, 1, 1, 0, i -> Checks.of(Firms.drums(2).moves(i, 0, 0)));
        C.bounds("moves of twenty", 0, 19, 1, 0, i -> Checks.of(Firms.drums(20).moves(i, 0, 0)));
        C.bounds("moves to kitchen or depot", -1, 1, 1, 0, k -> Checks.of(Firms.drums(1).moves(0, k, 0)));
        C.bounds("moves on, now 0", 0, 0, 1, 0, day -> Checks.of(Firms.drums(1).moves(0, 0, day)));
        C.bounds("moves on, now 9", 0, 9, 1, 0, day -> {
            OilHome x = Firms.drums(1);
            x.now(9);
            return Checks.of(x.moves(0, 0, day));
        });
        C.bounds("moves on, now 399", 0, 399, 1, 0, day -> {
            OilHome x = Firms.drums(1);
            x.now(399);
            return Checks.of(x.moves(0, -1, day));
        });
        C.no("no drums", Firms.kitchens(1).moves(0, 0, 0));
        OilHome y = new OilHome();
        y.drum();
        C.no("no kitchens", y.moves(0, 0, 0));
        C.yes("but a depot", y.moves(0, -1, 0));
    }

    private static void movesAreNotAheadOfTheLatest() {
        C.bounds("moves behind 5", 5, 9, 1, 0, day -> Checks.of(moved(5).moves(0, 1, day)));
        C.bounds("moves of another", 0, 9, 1, 0, day -> Checks.of(moved(5).moves(1, 1, day)));
        OilHome x = moved(5);
        C.yes("to the depot", x.moves(0, -1, 8));
        C.no("ahead of that", x.moves(0, 0, 7));
        C.yes("on that day", x.moves(0, 0, 8));
    }

    /** Drum 0 with kitchen 0 from a day on; now is 9. */
    private static OilHome moved(int day) {
        OilHome x = Firms.drums(2);
        x.now(9);
        x.moves(0, 0, day);
        return x;
    }

    private static void movesAreSixty() {
        OilHome x = Firms.drums(2);
        C.no("refused", x.moves(0, 2, 0));
        C.no("refused", x.moves(0, 0, 1));
        for (int n = 0; n < 60; n++) {
            C.yes("move " + n, x.moves(n % 2, n / 2 % 2, 0));
        }
        C.no("a 61st", x.moves(0, 0, 0));
        C.no("a 61st", x.moves(1, -1, 0));
        C.due("by the last but one", x.stood(0, 0), 1);
        C.due("by the last", x.stood(1, 0), 1);
    }

    private static void stoodOnADay() {
        C.bounds("stood", 0, 1, -2, -1, i -> Firms.drums(2).stood(i, 0));
        C.bounds("stood on", 0, 399, -2, -1, day -> Firms.drums(1).stood(0, day));
        C.due("from 5 on", moved(5).stood(0, 5), 0);
        C.due("up to the last day", moved(5).stood(0, 399), 0);
        C.due("the day ahead", moved(5).stood(0, 4), -2);
        C.due("day 0", moved(5).stood(0, 0), -2);
        C.due("day -1", moved(5).stood(0, -1), -1);
        C.due("day 400", moved(5).stood(0, 400), -1);
        C.due("no drums", new OilHome().stood(0, 0), -1);
    }

    private static void stoodByWhatWasToldLast() {
        OilHome x = moved(5);
        x.moves(0, 1, 5);
        C.due("for that day told last", x.stood(0, 5), 1);
        C.due("ahead of it", x.stood(0, 4), -2);
        x.moves(0, -1, 7);
        C.due("the day ahead", x.stood(0, 6), 1);
        C.due("at the depot", x.stood(0, 7), -2);
        C.due("at the depot", x.stood(0, 399), -2);
        x.moves(0, 0, 7);
        C.due("for that day told last", x.stood(0, 7), 0);
        C.due("the day ahead", x.stood(0, 6), 1);
        C.due("another stays at the depot", x.stood(1, 7), -2);
    }

    private static void staleIsOfDays() {
        C.bounds("stale by", 0, 399, 0, -1, days -> new OilHome().stale(days));
        C.due("at the depot at first", Firms.drums(20).stale(0), 0);
    }

    private static void staleSoManyDaysAgoOrMore() {
        OilHome x = moved(5);
        C.due("as many", x.stale(4), 1);
        C.due("one more", x.stale(5), 0);
        C.due("fewer", x.stale(3), 1);
        C.due("0", x.stale(0), 1);
        x.moves(1, 1, 9);
        C.due("today", x.stale(0), 3);
        C.due("not one day ago", x.stale(1), 1);
        x.moves(0, 0, 6);
        C.due("told again to the same kitchen: its latest", x.stale(4), 0);
        C.due("its latest", x.stale(3), 1);
        x.moves(0, -1, 6);
        C.due("at the depot now", x.stale(3), 0);
        OilHome y = Firms.drums(20);
        y.moves(19, 0, 0);
        y.moves(0, 0, 0);
        y.now(399);
        C.due("399 days ago", y.stale(399), 1 << 19 | 1);
        OilHome z = Firms.drums(1);
        z.now(399);
        z.moves(0, 0, 1);
        C.due("398 days ago", z.stale(398), 1);
        C.due("not 399 days ago", z.stale(399), 0);
    }
}
