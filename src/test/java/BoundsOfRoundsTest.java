/** Each sentence that names a boundary of rounds, lorries and nights: promises 14, 15 and 37 to 40. */
public final class BoundsOfRoundsTest {
    private static final Checks C = new Checks("BoundsOfRoundsTest");
    private static final int MIN = Integer.MIN_VALUE;
    private static final int MAX = Integer.MAX_VALUE;

    public static void main(String[] args) {
        roundIsOnADayByLitres();
        roundBySoManyLitresOrMore();
        roundToNone();
        roundToEachOnceAndBack();
        roundToEightAtMost();
        roundPlaces();
        roundWhereOneWasEmptiedBehind();
        roundOfLikeOnesTheLeastRow();
        drivenByNoneToTwentyBytes();
        drivenToKitchensThatAreThere();
        drivenTape();
        lorryOfLitres();
        lorriesAreThree();
        offIsOfALorryAndADay();
        offIsSo();
        sharedIsOnADayByLitres();
        sharedToNone();
        sharedToSixAtMost();
        sharedWhereOneWasEmptiedBehind();
        sharedNoneAboveWhatItTakes();
        sharedByThoseThatAreNotOff();
        sharedOfLikeOnesTheLeastRow();
        sharedOfAKitchen();
        nightsAreOneToSeven();
        nightsUpToTheLastDay();
        nightsToEightAtMost();
        nightsWhereOneWasEmptiedBehind();
        nightsOneBehindTheOther();
        nightsTellNothing();
        C.end();
    }

    // ---- rounds

    private static void roundIsOnADayByLitres() {
        C.bounds("round on", 0, 399, 0, -1, day -> new OilHome().round(day, 1, -1));
        C.bounds("round by", 1, 400, 0, -1, litres -> new OilHome().round(0, litres, -1));
        OilHome x = new OilHome();
        x.kitchen(3, 4, 50, 400);
        C.bounds("round on, place 0", 1, 399, 0, -1, day -> x.round(day, 1, 0));
        C.bounds("round by, place 0", 1, 400, 0, -1, litres -> x.round(399, litres, 0));
        C.due("nothing is in a drum on day 0", x.round(0, 1, -1), 0);
    }

    private static void roundBySoManyLitresOrMore() {
        OilHome x = Firms.places();
        x.kitchen(5, 0, 10, 100);
        C.due("as many", x.round(3, 30, -1), 10);
        C.due("one more than are likely", x.round(3, 31, -1), 0);
        C.due("one less", x.round(3, 29, -1), 10);
        C.due("as many as the drum", x.round(399, 100, -1), 10);
        C.due("more than the drum", x.round(399, 101, -1), 0);
        OilHome y = new OilHome();
        y.kitchen(5, 0, 50, 400);
        C.due("400", y.round(8, 400, -1), 10);
        C.due("400 a day ahead", y.round(7, 400, -1), 0);
        OilHome z = Firms.places(9, 9);
        C.due("0 litres are never so many", z.round(399, 1, -1), 0);
    }

    private static void roundToNone() {
        OilHome x = Firms.kitchens(3);
        for (OilHome y : new OilHome[] {x, new OilHome()}) {
            C.due("length 0", y.round(0, 1, -1), 0);
            C.due("no place", y.round(0, 1, 0), -1);
            C.due("no place", y.round(0, 1, 1), -1);
            C.due("no place", y.round(0, 1, -2), -1);
        }
    }

    private static void roundToEachOnceAndBack() {
        OilHome x = new OilHome();
        x.kitchen(99, 99, 10, 100);
        C.due("there and back", x.round(5, 1, -1), 396);
        x.kitchen(0, 0, 10, 100);
        C.due("one at the depot", x.round(5, 1, -1), 396);
        C.due("the least row", x.round(5, 1, 0), 0);
        C.due("the least row", x.round(5, 1, 1), 1);
        x.kitchen(99, 0, 10, 100);
        C.due("on the way", x.round(5, 1, -1), 396);
        x.kitchen(99, 99, 10, 100);
        C.due("two at one place", x.round(5, 1, -1), 396);
        C.due("the first of them", x.round(5, 1, 0), 0);
    }

    private static void roundToEightAtMost() {
        OilHome x = Firms.kitchens(8);
        C.due("eight", x.round(9, 90, -1), 14);
        C.due("the eighth", x.round(9, 90, 7), 7);
        C.due("a ninth place", x.round(9, 90, 8), -1);
        x.kitchen(8, 0, 9, 90);
        for (int what : new int[] {-1, 0, 7, 8, 9, -2, MIN, MAX}) {
            C.due("nine, what " + what, x.round(9, 81, what), -2);
        }
        C.due("eight of nine", x.round(9, 82, -1), 14);
        x.kitchen(9, 0, 10, 100);
        C.due("nine of ten", x.round(9, 82, -1), -2);
        C.due("all of ten", x.round(9, 1, -1), -2);
        C.due("none of ten", x.round(9, 91, -1), 0);
    }

    private static void roundPlaces() {
        OilHome x = Firms.kitchens(3);
        for (int what = 0; what < 3; what++) {
            C.due("place " + what, x.round(9, 1, what), what);
        }
        C.due("length", x.round(9, 1, -1), 4);
        for (int what : new int[] {3, 4, 7, 8, 10, 99, MAX, -2, -3, MIN}) {
            C.due("place " + what, x.round(9, 1, what), -1);
        }
    }

    private static void roundWhereOneWasEmptiedBehind() {
        OilHome x = Firms.kitchensOn(20, 2);
        x.kitchen(50, 50, 0, 20);
        x.fetch(2, 10, 0, 0, 0, 399);
        C.due("the day ahead, though none goes to it", x.round(9, 1, -1), -2);
        C.due("the day ahead, place 0", x.round(9, 1, 0), -2);
        C.due("the day ahead, a place that is not there", x.round(9, 1, 5), -2);
        C.due("the day ahead, none to go to", x.round(9, 400, -1), -2);
        C.due("on that day", x.round(10, 1, -1), 2);
        C.due("on the day behind", x.round(11, 1, -1), 2);
        x.fetch(0, 12, 0, 0, 0, 12);
        C.due("another, the day ahead", x.round(11, 1, -1), -2);
        C.due("another, on that day: nothing is in it", x.round(12, 1, 0), 1);
        C.due("ahead of now", x.round(399, 1, -1), 2);
    }

    private static void row(OilHome x, int length, int... kitchens) {
        C.due("length", x.round(9, 50, -1), length);
        for (int i = 0; i < kitchens.length; i++) {
            C.due("place " + i, x.round(9, 50, i), kitchens[i]);
        }
        C.due("behind the last", x.round(9, 50, kitchens.length), -1);
    }

    private static OilHome at(int... xy) {
        OilHome x = new OilHome();
        for (int i = 0; i < xy.length; i += 2) {
            x.kitchen(xy[i], xy[i + 1], 10, 100);
        }
        return x;
    }

    private static void roundOfLikeOnesTheLeastRow() {
        row(at(9, 0, 5, 0), 18, 0, 1);
        row(at(5, 0, 9, 0), 18, 0, 1);
        row(at(5, 5, 5, 0, 0, 5), 20, 1, 0, 2);
        row(at(5, 0, 5, 5, 0, 5), 20, 0, 1, 2);
        row(at(5, 0, 0, 5, 5, 5), 20, 0, 2, 1);
        row(at(1, 1, 1, 1, 1, 1), 4, 0, 1, 2);
        row(at(3, 0, 1, 0, 2, 0, 0, 0), 6, 0, 2, 1, 3);
        row(at(10, 0, 10, 10, 0, 10, 5, 5), 50, 0, 1, 2, 3);
    }

    // ---- driven

    private static void drivenByNoneToTwentyBytes() {
        C.bounds("driven by", 0, 20, 0, -1, n -> {
            OilHome x = Firms.places(0, 0);
            Checks.feedBytes(x, new int[40]);
            return x.driven(n);
        });
        C.bounds("driven by, of 20", 0, 20, 0, -1, n -> {
            OilHome x = Firms.places(0, 0);
            Checks.feedBytes(x, new int[20]);
            return x.driven(n);
        });
        C.bounds("driven by, of nothing", 0, 0, 0, -1, n -> new OilHome().driven(n));
    }

    private static void drivenToKitchensThatAreThere() {
        OilHome x = Firms.places(10, 0, 0, 20);
        C.due("none", Checks.driven(x), 0);
        C.due("the first", Checks.driven(x, 0), 20);
        C.due("the last", Checks.driven(x, 1), 40);
        C.due("one behind the last", Checks.driven(x, 2), -1);
        C.due("one behind the last, at the end", Checks.driven(x, 0, 1, 2), -1);
        C.due("one behind the last, but not of the first n", drivenBy(x, 2, 0, 1, 2), 60);
        C.due("byte 128", Checks.driven(x, 128), -1);
        C.due("byte 255", Checks.driven(x, 255), -1);
        C.due("one twice", Checks.driven(x, 0, 0), 20);
        C.due("one again", Checks.driven(x, 0, 1, 0), 80);
        C.due("nineteen and one that is not there", Checks.driven(x, 0, 0, 0, 0, 0, 0, 0, 0, 0, 0, 0, 0, 0, 0, 0, 0, 0, 0, 0, 9), -1);
        C.due("no kitchens", Checks.driven(new OilHome(), 0), -1);
        OilHome ten = Firms.kitchens(10);
        C.due("ten of them", Checks.driven(ten, 0, 1, 2, 3, 4, 5, 6, 7, 8, 9), 18);
        C.due("an eleventh", Checks.driven(ten, 10), -1);
    }

    private static int drivenBy(OilHome x, int n, int... bytes) {
        Checks.feedBytes(x, bytes);
        return x.driven(n);
    }

    private static void drivenTape() {
        OilHome x = Firms.places(10, 0);
        Checks.feedBytes(x, new int[40]);
        for (int n : new int[] {-1, 21, 22, 40, 41, MIN, MAX}) {
            C.due("no such n " + n, x.driven(n), -1);
            C.due("the tape stays", x.count(3), 40);
        }
        C.due("one", x.driven(1), 20);
        C.due("empty then", x.count(3), 0);
        C.due("it has not so many", x.driven(1), -1);
        Checks.feedBytes(x, 7);
        C.due("no such kitchen", x.driven(1), -1);
        C.due("empty then", x.count(3), 0);
        Checks.feedBytes(x, 7);
        C.due("none", x.driven(0), 0);
        C.due("empty then", x.count(3), 0);
        Checks.feedBytes(x, 7);
        C.due("one more than are there, none of them a kitchen", x.driven(21), -1);
        C.due("the tape stays", x.count(3), 20);
    }

    // ---- lorries

    private static void lorryOfLitres() {
        C.bounds("lorry of", 20, 2000, 0, -1, litres -> new OilHome().lorry(litres));
    }

    private static void lorriesAreThree() {
        OilHome x = new OilHome();
        C.due("refused", x.lorry(19), -1);
        for (int l = 0; l < 3; l++) {
            C.due("lorries", x.count(8), l);
            C.due("lorry " + l, x.lorry(20), l);
        }
        C.due("a fourth", x.lorry(20), -1);
        C.due("lorries", x.count(8), 3);
    }

    private static OilHome lorries(int... litres) {
        OilHome x = new OilHome();
        for (int l : litres) {
            x.lorry(l);
        }
        return x;
    }

    private static void offIsOfALorryAndADay() {
        C.bounds("off, of one", 0, 0, 1, 0, l -> Checks.of(lorries(20).off(l, 0, true)));
        C.bounds("off, of three", 0, 2, 1, 0, l -> Checks.of(lorries(20, 20, 20).off(l, 399, true)));
        C.no("off, of none", new OilHome().off(0, 0, true));
        for (int l = 0; l < 3; l++) {
            int of = l;
            C.bounds("off on", 0, 399, 1, 0, day -> Checks.of(lorries(20, 20, 20).off(of, day, true)));
            C.bounds("off on, not any more", 0, 399, 1, 0, day -> {
                OilHome x = lorries(20, 20, 20);
                x.off(of, day, true);
                return Checks.of(x.off(of, day, false));
            });
        }
    }

    private static void offIsSo() {
        OilHome x = lorries(20, 20, 20);
        C.no("not off at first", x.off(1, 0, false));
        C.yes("off", x.off(1, 0, true));
        C.no("it is so", x.off(1, 0, true));
        C.no("another is not", x.off(0, 0, false));
        C.no("another is not", x.off(2, 0, false));
        C.no("not on another day", x.off(1, 1, false));
        C.no("the day ahead of another's is not its last", x.off(0, 399, false));
        C.yes("not any more", x.off(1, 0, false));
        C.no("it is so", x.off(1, 0, false));
        C.yes("off again", x.off(1, 0, true));
    }

    // ---- shared

    private static void sharedIsOnADayByLitres() {
        C.bounds("shared on", 0, 399, 0, -1, day -> new OilHome().shared(day, 1, -1));
        C.bounds("shared by", 1, 400, 0, -1, litres -> new OilHome().shared(0, litres, -1));
        OilHome x = lorries(2000);
        x.kitchen(5, 0, 50, 400);
        C.due("as many litres", x.shared(3, 150, -1), 10);
        C.due("one more than are likely", x.shared(3, 151, -1), 0);
        C.due("400", x.shared(8, 400, 0), 0);
        C.due("400 a day ahead", x.shared(7, 400, 0), -1);
    }

    private static void sharedToNone() {
        C.due("no kitchens, no lorries", new OilHome().shared(0, 1, -1), 0);
        OilHome x = Firms.kitchens(2);
        C.due("no lorries: length 0", x.shared(0, 1, -1), 0);
        C.due("of a kitchen", x.shared(0, 1, 0), -1);
        C.due("no lorries, one to go to", x.shared(1, 10, -1), -2);
        x.lorry(20);
        x.off(0, 0, true);
        C.due("all off: length 0", x.shared(0, 1, -1), 0);
        C.due("of a kitchen", x.shared(0, 1, 1), -1);
    }

    private static void sharedToSixAtMost() {
        OilHome x = Firms.kitchens(6);
        x.lorry(2000);
        C.due("six", x.shared(9, 90, -1), 10);
        for (int k = 0; k < 6; k++) {
            C.due("six, of " + k, x.shared(9, 90, k), 0);
        }
        x.kitchen(6, 0, 9, 100);
        for (int what = -1; what < 7; what++) {
            C.due("seven, what " + what, x.shared(9, 81, what), -2);
        }
        C.due("seven, of a kitchen that is not there", x.shared(9, 81, 7), -1);
        C.due("six of seven", x.shared(9, 82, -1), 10);
        C.due("six of seven, of the seventh", x.shared(9, 82, 6), -1);
    }

    private static void sharedWhereOneWasEmptiedBehind() {
        OilHome x = Firms.kitchensOn(20, 2);
        x.kitchen(50, 50, 0, 20);
        x.lorry(2000);
        x.fetch(2, 10, 0, 0, 0, 399);
        C.due("the day ahead, though none goes to it", x.shared(9, 1, -1), -2);
        C.due("the day ahead, of one", x.shared(9, 1, 0), -2);
        C.due("the day ahead, of one to which none goes", x.shared(9, 1, 2), -2);
        C.due("the day ahead, of one that is not there", x.shared(9, 1, 3), -1);
        C.due("the day ahead, none to go to", x.shared(9, 400, -1), -2);
        C.due("on that day", x.shared(10, 1, -1), 2);
        C.due("on that day, of one to which none goes", x.shared(10, 1, 2), -1);
    }

    private static void sharedNoneAboveWhatItTakes() {
        OilHome x = lorries(70);
        x.kitchen(4, 0, 10, 40);
        x.kitchen(8, 0, 10, 30);
        C.due("as many as it takes", x.shared(9, 1, -1), 16);
        OilHome y = lorries(69);
        y.kitchen(4, 0, 10, 40);
        y.kitchen(8, 0, 10, 30);
        C.due("one more than it takes", y.shared(9, 1, -1), -2);
        C.due("one more than it takes, of one", y.shared(9, 1, 0), -2);
        C.due("but either alone", y.shared(9, 31, -1), 8);
        y.lorry(39);
        C.due("the first to the first", y.shared(9, 1, 0), 0);
        C.due("the second to the second", y.shared(9, 1, 1), 1);
        C.due("together", y.shared(9, 1, -1), 8 + 16);
        OilHome z = lorries(29, 39);
        z.kitchen(4, 0, 10, 40);
        z.kitchen(8, 0, 10, 30);
        C.due("none takes the first", z.shared(9, 1, -1), -2);
        z.lorry(40);
        C.due("the third does", z.shared(9, 1, 0), 2);
        C.due("the second takes the second", z.shared(9, 1, 1), 1);
        OilHome v = lorries(20);
        v.kitchen(4, 0, 50, 400);
        C.due("by what is likely on that day, not by the drum", v.shared(0, 1, -1), 0);
        C.due("by what is likely on that day", v.shared(1, 1, -1), -2);
    }

    private static void sharedByThoseThatAreNotOff() {
        OilHome x = lorries(100, 100, 100);
        x.kitchen(5, 0, 10, 100);
        C.due("the first", x.shared(10, 1, 0), 0);
        x.off(0, 10, true);
        C.due("the second", x.shared(10, 1, 0), 1);
        x.off(1, 10, true);
        C.due("the third", x.shared(10, 1, 0), 2);
        x.off(2, 10, true);
        C.due("none", x.shared(10, 1, 0), -2);
        C.due("none", x.shared(10, 1, -1), -2);
        C.due("none, of a kitchen that is not there", x.shared(10, 1, 1), -1);
        C.due("on the day ahead", x.shared(9, 1, 0), 0);
        C.due("on the day behind", x.shared(11, 1, 0), 0);
        x.off(1, 10, false);
        C.due("not off any more", x.shared(10, 1, 0), 1);
    }

    private static void sharedOfLikeOnesTheLeastRow() {
        OilHome x = lorries(100, 100, 100);
        x.kitchen(0, 0, 10, 100);
        x.kitchen(5, 0, 10, 100);
        x.kitchen(5, 0, 10, 100);
        int[] due = {0, 1, 2};
        for (int k = 0; k < 3; k++) {
            C.due("one each: " + k, x.shared(10, 100, k), due[k]);
            C.due("all to one: " + k, x.shared(3, 30, k), 0);
        }
        C.due("length", x.shared(10, 100, -1), 20);
        OilHome y = lorries(60, 100);
        y.kitchen(5, 0, 10, 100);
        y.kitchen(0, 5, 10, 100);
        y.kitchen(0, 5, 10, 100);
        // On day 3 each has 30: one alone and two together in either way; 1 and 2 together are shorter.
        C.due("the first to 0", y.shared(3, 30, 0), 0);
        C.due("the others to 1", y.shared(3, 30, 1), 1);
        C.due("the others to 1", y.shared(3, 30, 2), 1);
        C.due("length", y.shared(3, 30, -1), 20);
    }

    private static void sharedOfAKitchen() {
        OilHome x = lorries(2000);
        for (int k = 0; k < 10; k++) {
            x.kitchen(k, 0, k < 2 ? 10 : 0, 100);
        }
        C.due("length", x.shared(9, 1, -1), 2);
        C.due("the first", x.shared(9, 1, 0), 0);
        C.due("none goes there", x.shared(9, 1, 9), -1);
        for (int what : new int[] {10, 11, MAX, -2, -3, MIN}) {
            C.due("no such kitchen " + what, x.shared(9, 1, what), -1);
        }
    }

    // ---- nights

    private static void nightsAreOneToSeven() {
        C.bounds("nights from", 0, 399, 0, -1, day -> new OilHome().nights(day, 1, 1, 0));
        C.bounds("nights", 1, 7, 0, -1, n -> new OilHome().nights(0, n, 1, 0));
        C.bounds("nights by", 1, 400, 0, -1, litres -> new OilHome().nights(0, 1, litres, 0));
        C.bounds("nights what", 0, 2, 0, -1, what -> new OilHome().nights(0, 1, 1, what));
    }

    private static void nightsUpToTheLastDay() {
        for (int n = 1; n <= 7; n++) {
            int of = n;
            C.bounds(n + " nights from", 0, 400 - n, 0, -1, day -> new OilHome().nights(day, of, 1, 2));
        }
        OilHome x = Firms.kitchens(9);
        C.due("nine, but the last night is 400", x.nights(399, 2, 1, 0), -1);
        C.due("nine", x.nights(399, 1, 1, 0), -2);
    }

    private static void nightsToEightAtMost() {
        OilHome x = Firms.kitchens(8);
        C.due("eight", x.nights(1, 2, 10, 2), 16);
        x.kitchen(8, 0, 2, 100);
        C.due("eight on four nights", x.nights(1, 4, 10, 2), 32);
        C.due("a ninth on the fifth night", x.nights(1, 5, 10, 2), -2);
        C.due("a ninth on the fifth night, lengths", x.nights(1, 5, 10, 0), -2);
        C.due("a ninth on the fifth night, litres", x.nights(1, 5, 10, 1), -2);
        C.due("nine at once", x.nights(5, 1, 10, 0), -2);
        C.due("nine at once, what 3", x.nights(5, 1, 10, 3), -1);
        C.due("nine at once, by 0", x.nights(5, 1, 0, 0), -1);
        C.due("nine at once, no nights", x.nights(5, 0, 10, 0), -1);
        C.due("nine at once, eight nights", x.nights(5, 8, 10, 0), -1);
    }

    private static void nightsWhereOneWasEmptiedBehind() {
        OilHome x = Firms.kitchensOn(20, 2);
        x.kitchen(50, 50, 0, 20);
        x.fetch(2, 10, 0, 0, 0, 399);
        C.due("the day ahead, though none goes to it", x.nights(9, 3, 1, 0), -2);
        C.due("the day ahead, none to go to", x.nights(9, 3, 400, 0), -2);
        C.due("the day ahead, what 3", x.nights(9, 3, 1, 3), -1);
        C.due("on that day", x.nights(10, 3, 1, 0), 6);
        C.due("on the day behind", x.nights(11, 3, 1, 0), 6);
    }

    private static void nightsOneBehindTheOther() {
        OilHome x = new OilHome();
        x.kitchen(5, 0, 10, 35);
        C.due("none on day 0", x.nights(0, 1, 1, 2), 0);
        C.due("none on day 0, one on day 1", x.nights(0, 2, 1, 2), 1);
        C.due("by 10 each night", x.nights(3, 4, 10, 2), 4);
        C.due("litres: 30 and three times 10", x.nights(3, 4, 10, 1), 60);
        C.due("at most the drum: 35 and 10", x.nights(9, 2, 10, 1), 45);
        C.due("by 11 on each other night", x.nights(3, 4, 11, 2), 2);
        C.due("litres: 30 and 20", x.nights(3, 4, 11, 1), 50);
        C.due("lengths", x.nights(3, 4, 11, 0), 20);
        C.due("by 20, as many", x.nights(3, 3, 20, 2), 2);
        C.due("by 21", x.nights(3, 3, 21, 2), 1);
        C.due("by 36, more than the drum", x.nights(3, 7, 36, 2), 0);
        C.due("one night is a round", x.nights(3, 1, 30, 0), x.round(3, 30, -1));
        OilHome y = Firms.kitchensOn(20, 1);
        y.fetch(0, 4, 0, 0, 0, 4);
        C.due("from the day it was emptied on", y.nights(4, 3, 20, 1), 20);
        OilHome z = new OilHome();
        z.kitchen(99, 99, 50, 400);
        z.kitchen(99, 0, 50, 400);
        C.due("seven nights by all", z.nights(393, 7, 50, 0), 7 * 396);
        C.due("litres", z.nights(393, 7, 50, 1), 800 + 6 * 100);
        C.due("kitchens", z.nights(393, 7, 50, 2), 14);
    }

    private static void nightsTellNothing() {
        OilHome x = Firms.kitchens(2);
        x.lorry(2000);
        C.due("nights", x.nights(1, 7, 1, 1), 140);
        C.due("again", x.nights(1, 7, 1, 1), 140);
        C.due("not emptied", x.count(20), 0);
        C.due("likely", x.likely(0, 7), 70);
        C.due("a round", x.round(1, 10, -1), 2);
        C.due("a shared round", x.shared(1, 10, -1), 2);
        C.due("no loads", x.count(2), 0);
        C.due("nothing in stock", x.stock(399), 0);
    }
}
