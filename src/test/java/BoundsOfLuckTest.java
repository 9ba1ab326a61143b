/** Each sentence that names a boundary of what is beyond luck: promises 13 and 33 to 35. */
public final class BoundsOfLuckTest {
    private static final Checks C = new Checks("BoundsOfLuckTest");

    public static void main(String[] args) {
        beyondIsOfADayOfTheWeek();
        dayModuloSeven();
        missingIfAboveZero();
        noLoadsNoneAndAll();
        noCommonDivisor();
        asManyOrMore();
        streetIsOfAKitchen();
        streetsAreTen();
        streetIsZeroAtFirst();
        streetsOfAllThatAreMissing();
        cheatIsOfAKitchenAndWater();
        wetIsSoMuchOrMore();
        greatest();
        C.end();
    }

    private static void beyondIsOfADayOfTheWeek() {
        OilHome x = Firms.loads(5);
        C.bounds("beyond g", 0, 6, 1, -1, g -> x.beyond(g, 0));
        C.bounds("beyond g below the line", 0, 6, 1, -1, g -> x.beyond(g, 1));
        C.bounds("beyond g how many", 0, 6, 0, -1, g -> x.beyond(g, 2));
        for (int what : new int[] {-1, 3, Integer.MIN_VALUE, Integer.MAX_VALUE}) {
            C.due("beyond what " + what, x.beyond(0, what), -1);
            C.due("streets what " + what, x.streets(0, what), -1);
            C.due("cheat what " + what, x.cheat(0, 0, what), -1);
        }
    }

    /** Kitchen 0 gives 10 a day: a load of no litres is MISSING if a day has gone by. */
    private static void dayModuloSeven() {
        OilHome x = Firms.kitchensOn(399, 1);
        int[] days = {6, 7, 13, 14, 398, 399};
        for (int day : days) {
            x.fetch(0, day, 0, 0, 0, 399);
        }
        C.due("399 modulo 7", x.beyond(0, 2), 3);
        C.due("398 modulo 7", x.beyond(6, 2), 3);
        for (int g = 1; g < 6; g++) {
            C.due("none on " + g, x.beyond(g, 2), 0);
        }
    }

    private static void missingIfAboveZero() {
        OilHome x = Firms.kitchensOn(9, 1);
        x.fetch(0, 1, 8, 0, 0, 1);
        x.fetch(0, 2, 9, 0, 0, 2);
        x.fetch(0, 3, 10, 0, 0, 3);
        C.due("1 is missing", x.missing(0), 1);
        C.due("it is MISSING", x.beyond(1, 2), 1);
        C.due("0 is missing", x.missing(1), 0);
        C.due("it is not MISSING", x.beyond(2, 2), 0);
        C.due("it is not MISSING", x.beyond(3, 2), 0);
        C.due("one of three", x.beyond(1, 0), 1);
        C.due("one of three", x.beyond(1, 1), 3);
        C.due("one of the street", x.streets(0, 2), 1);
    }

    private static void odds(String what, OilHome x, int g, long above, long below, long both) {
        C.due(what + ", above", x.beyond(g, 0), above);
        C.due(what + ", below", x.beyond(g, 1), below);
        C.due(what + ", both", x.beyond(g, 2), both);
    }

    private static void noLoadsNoneAndAll() {
        odds("no kitchens", new OilHome(), 0, 1, 1, 0);
        odds("no loads", Firms.kitchens(2), 6, 1, 1, 0);
        C.due("no loads in a street", new OilHome().streets(9, 0), 1);
        C.due("no loads in a street", new OilHome().streets(9, 1), 1);
        C.due("no loads of a kitchen", Firms.kitchens(1).cheat(0, 0, 0), 1);
        C.due("no loads of a kitchen", Firms.kitchens(1).cheat(0, 0, 1), 1);
        OilHome x = Firms.kitchensOn(30, 1);
        x.fetch(0, 7, 0, 0, 0, 30);
        x.fetch(0, 14, 0, 0, 0, 30);
        odds("all on this day, all missing", x, 0, 1, 1, 2);
        odds("none on this day", x, 1, 1, 1, 0);
        OilHome y = Firms.kitchensOn(30, 1);
        y.fetch(0, 7, 400, 0, 0, 30);
        y.fetch(0, 15, 400, 0, 0, 30);
        odds("none missing", y, 0, 1, 1, 0);
    }

    private static void noCommonDivisor() {
        OilHome x = Firms.kitchensOn(30, 1);
        x.fetch(0, 7, 0, 0, 0, 30);
        x.fetch(0, 15, 0, 0, 0, 30);
        x.fetch(0, 16, 400, 0, 0, 30);
        x.fetch(0, 17, 400, 0, 0, 30);
        odds("2 of 4: a half", x, 0, 1, 2, 1);
        x.fetch(0, 21, 0, 0, 0, 30);
        x.fetch(0, 22, 400, 0, 0, 30);
        odds("2 of 2 by 3 of 6: 3 of 15", x, 0, 1, 5, 2);
        odds("1 or 2 by 3 of 6: 12 of 15", x, 1, 4, 5, 1);
    }

    private static void asManyOrMore() {
        OilHome x = Firms.kitchensOn(99, 1);
        int[] days = {7, 14, 21, 22, 23, 24, 29};
        int[] litres = {0, 0, 400, 0, 400, 400, 400};
        for (int i = 0; i < 7; i++) {
            x.fetch(0, days[i], litres[i], 0, 0, 99);
        }
        // 3 of 7 are missing. Of three: 2 or 3 are 3 * 4 + 1 of 35.
        odds("2 of three", x, 0, 13, 35, 2);
        // Of two: 1 or 2 are 3 * 4 + 3 of 21.
        odds("1 of two", x, 1, 5, 7, 1);
        // Of one: 0 or more is sure.
        odds("0 of one", x, 2, 1, 1, 0);
    }

    private static void streetIsOfAKitchen() {
        C.bounds("street of", 0, 1, 1, 0, k -> Checks.of(Firms.kitchens(2).street(k, 0)));
        C.no("no kitchens", new OilHome().street(0, 0));
    }

    private static void streetsAreTen() {
        C.bounds("street", 0, 9, 1, 0, s -> Checks.of(Firms.kitchens(1).street(0, s)));
        C.bounds("streets", 0, 9, 1, -1, s -> Firms.loads(5).streets(s, 0));
        C.bounds("streets below the line", 0, 9, 1, -1, s -> Firms.loads(5).streets(s, 1));
        C.bounds("streets how many", 0, 9, 0, -1, s -> Firms.loads(5).streets(s, 2));
    }

    private static void streetIsZeroAtFirst() {
        OilHome x = Firms.kitchensOn(9, 2);
        x.fetch(0, 5, 0, 0, 0, 5);
        x.fetch(1, 5, 400, 0, 0, 5);
        C.due("0 at first", x.count(30), 0);
        C.due("all are in 0", x.streets(0, 2), 1);
        C.due("all are in 0", x.streets(0, 1), 1);
        C.yes("to 9", x.street(0, 9));
        C.due("in 9", x.count(30), 9);
        C.due("none of 0 is missing", x.streets(0, 2), 0);
        C.due("it is in 9", x.streets(9, 2), 1);
        C.due("one of two", x.streets(9, 1), 2);
        C.no("10", x.street(0, 10));
        C.no("-1", x.street(0, -1));
        C.due("stays", x.count(30), 9);
        C.yes("back", x.street(0, 0));
        C.due("all are in 0", x.streets(0, 2), 1);
        C.due("none is in 9", x.streets(9, 2), 0);
    }

    /** 4 of 6 are MISSING, one of them by a single litre; in street 1 are 3, of them 2. */
    private static void streetsOfAllThatAreMissing() {
        OilHome x = Firms.kitchensOn(9, 2);
        x.street(1, 1);
        int[][] fetches = {{0, 8}, {1, 8}, {1, 0}, {1, 400}, {0, 0}, {0, 400}};
        int[] days = {1, 1, 2, 3, 2, 3};
        for (int i = 0; i < fetches.length; i++) {
            x.fetch(fetches[i][0], days[i], fetches[i][1], 0, 0, 9);
        }
        C.due("a single litre", x.missing(0), 1);
        C.due("a single litre", x.missing(1), 1);
        C.due("2 or 3 by 3 of 6: 6 * 2 + 4 of 20", x.streets(1, 0), 4);
        C.due("2 or 3 by 3 of 6: 6 * 2 + 4 of 20", x.streets(1, 1), 5);
        C.due("both", x.streets(1, 2), 2);
        C.due("as many in street 0", x.streets(0, 0), 4);
        C.due("as many in street 0", x.streets(0, 1), 5);
    }

    private static void cheatIsOfAKitchenAndWater() {
        OilHome x = Firms.kitchens(2);
        C.bounds("cheat of", 0, 1, 1, -1, k -> x.cheat(k, 0, 0));
        C.bounds("cheat water", 0, 1000, 1, -1, water -> x.cheat(1, water, 0));
        C.due("no kitchens", new OilHome().cheat(0, 0, 0), -1);
    }

    private static void wetIsSoMuchOrMore() {
        OilHome x = Firms.kitchens(2);
        x.fetch(0, 0, 5, 500, 0, 0);
        x.fetch(1, 0, 5, 499, 0, 0);
        x.fetch(1, 0, 0, 0, 0, 0);
        x.fetch(1, 0, 5, 1000, 0, 399);
        C.due("as much", x.cheat(0, 500, 2), 1);
        C.due("one more", x.cheat(0, 501, 2), 0);
        C.due("one less", x.cheat(1, 499, 2), 2);
        C.due("as much as one more", x.cheat(1, 500, 2), 1);
        C.due("0 is so much, too", x.cheat(1, 0, 2), 3);
        C.due("1000", x.cheat(1, 1000, 2), 1);
        C.due("1000, not of 0", x.cheat(0, 1000, 2), 0);
        C.due("2 of 4 wet, 1 of one", x.cheat(0, 500, 0), 1);
        C.due("2 of 4 wet, 1 of one", x.cheat(0, 500, 1), 2);
        C.due("all are wet: sure", x.cheat(1, 0, 1), 1);
    }

    /** 60 loads, the most: the longest ways to choose, and a sum of ways that fills the line. */
    private static void greatest() {
        OilHome x = Firms.kitchens(2);
        for (int i = 0; i < 60; i++) {
            x.fetch(i % 2, 0, 5, i % 2 == 0 ? 0 : 9, 0, 0);
        }
        C.due("all of its own", x.cheat(1, 9, 0), 1);
        C.due("all of its own", x.cheat(1, 9, 1), 118264581564861424L);
        C.due("all of its own", x.cheat(1, 9, 2), 30);
        C.due("none of its own", x.cheat(0, 9, 0), 1);
        C.due("none of its own", x.cheat(0, 9, 1), 1);
        OilHome y = Firms.kitchens(2);
        for (int i = 0; i < 60; i++) {
            y.fetch(i % 2, 0, 5, i % 4 < 2 ? 0 : 9, 0, 0);
        }
        // 15 or more of 30 by 30 of 60: half of all and half of those with 15 in each.
        java.math.BigInteger above = java.math.BigInteger.ZERO;
        for (int i = 15; i <= 30; i++) {
            above = above.add(choose(30, i).multiply(choose(30, 30 - i)));
        }
        java.math.BigInteger common = above.gcd(choose(60, 30));
        C.due("15 or more", y.cheat(1, 9, 0), above.divide(common).longValueExact());
        C.due("15 or more", y.cheat(1, 9, 1), choose(60, 30).divide(common).longValueExact());
    }

    private static java.math.BigInteger choose(int n, int k) {
        java.math.BigInteger ways = java.math.BigInteger.ONE;
        for (int i = 0; i < k; i++) {
            ways = ways.multiply(java.math.BigInteger.valueOf(n - i)).divide(java.math.BigInteger.valueOf(i + 1));
        }
        return ways;
    }
}
