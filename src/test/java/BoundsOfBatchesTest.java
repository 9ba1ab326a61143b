/** Each sentence that names a boundary of batches, proofs, samples and stock: promises 16 to 21 and 47 to 58. */
public final class BoundsOfBatchesTest {
    private static final Checks C = new Checks("BoundsOfBatchesTest");
    private static final int MIN = Integer.MIN_VALUE;
    private static final int MAX = Integer.MAX_VALUE;

    public static void main(String[] args) {
        batchIsOfLoadsZeroToNineteen();
        batchIsOfLoadsThatAreThere();
        batchIsOfLoadsKnownNow();
        batchIsOfLoadsInNoOther();
        batchesAreTen();
        batchPassesIfAllHold();
        batchWithoutLitres();
        batchTogetherRoundedDown();
        batchIsOfABatch();
        batchHasFreeLitres();
        lawToldAnewChangesNoBatch();
        blendOfNone();
        blendOfTheFirstTwelve();
        blendOfLoadsKnownNow();
        blendByTheLettersOfNow();
        blendOfMostLitres();
        blendOfLikeOnes();
        blendOfOneLoadAtLeast();
        proofIsOfLitresOfABatch();
        proofsAreForty();
        twiceIsTheFirst();
        boughtIsOfABuyer();
        boughtEachLitreOnce();
        whenceIsOfALitre();
        auditIsOfAProofAndAKitchen();
        useOfABuyer();
        rateOfAUseAndAWeek();
        taxRoundedDown();
        taxOfTheWeekInWhichItWasTold();
        mostOfABuyer();
        overdrawnIfMore();
        overdrawnInItsWeek();
        sampleIsOfABatch();
        samplesAreTwelve();
        claimIsOfThousandths();
        claimByMoreThanHalf();
        spillIsUpToNow();
        spillsAreForty();
        stockOnADay();
        stockMayBeBelowZero();
        belowSoMuch();
        belowUpToNow();
        C.end();
    }

    // ---- batches

    private static void batchIsOfLoadsZeroToNineteen() {
        int[] all = new int[22];
        C.bounds("batch of", 1, 1048575, 0, -1, set -> Firms.loads(all).batch(set));
        for (int i = 0; i < 32; i++) {
            C.due("batch of load " + i, Firms.loads(all).batch(1 << i), i < 20 ? 0 : -1);
            C.due("batch of 0 and load " + i, Firms.loads(all).batch(1 | 1 << i), i < 20 ? 0 : -1);
        }
        C.due("all twenty", everyLoadOf(all), 1048575);
    }

    private static int everyLoadOf(int[] litres) {
        OilHome x = Firms.loads(litres);
        x.batch(1048575);
        return x.batchIs(0, 4);
    }

    private static void batchIsOfLoadsThatAreThere() {
        C.bounds("batch of two loads", 1, 3, 0, -1, set -> Firms.loads(5, 6).batch(set));
        C.due("one that is there, one that is not", Firms.loads(5, 6).batch(5), -1);
        C.due("no loads", new OilHome().batch(1), -1);
        C.due("nineteen, and the twentieth is not there", Firms.loads(new int[19]).batch(1048575), -1);
    }

    private static void batchIsOfLoadsKnownNow() {
        for (int told = 3; told <= 5; told++) {
            OilHome x = Firms.loads(5);
            x.fetch(0, 0, 6, 0, 0, told);
            x.now(4);
            C.due("told on " + told + ", now 4", x.batch(2), told <= 4 ? 0 : -1);
            C.due("with one that is known, told on " + told, x.batch(told <= 4 ? 1 : 3), told <= 4 ? 1 : -1);
        }
        OilHome y = Firms.kitchensOn(398, 1);
        y.fetch(0, 0, 6, 0, 0, 399);
        C.due("told on the last day", y.batch(1), -1);
        y.now(399);
        C.due("on the last day", y.batch(1), 0);
    }

    private static void batchIsOfLoadsInNoOther() {
        OilHome x = Firms.loads(1, 2, 4, 8);
        C.due("1 and 2", x.batch(6), 0);
        for (int set = 1; set < 16; set++) {
            if ((set & 6) != 0) {
                C.due("in one already: " + set, x.batch(set), -1);
            }
        }
        C.due("the others", x.batch(9), 1);
        C.due("none is left", x.batch(1), -1);
    }

    private static void batchesAreTen() {
        OilHome x = Firms.loads(new int[20]);
        C.due("refused", x.batch(0), -1);
        for (int b = 0; b < 10; b++) {
            C.due("batch " + b, x.batch(1 << b), b);
        }
        C.due("an eleventh", x.batch(1 << 10), -1);
        C.due("batches", x.count(5), 10);
        C.due("the last", x.batchIs(9, 4), 512);
        C.due("an eleventh is not there", x.batchIs(10, 4), -1);
        C.due("its load is in none: it blends", x.blend(), 1 << 10);
    }

    private static void batchPassesIfAllHold() {
        for (int broken = 0; broken < 12; broken++) {
            OilHome x = Firms.loads(5);
            Checks.law(x, Checks.times("l(1=1);", broken) + "l(1=2)" + Checks.times(";l(1=2)", 11 - broken));
            C.due("the first that does not hold: " + broken, x.batch(1), -10 - broken);
            C.due("no batch", x.count(5), 0);
            C.due("no blend", x.blend(), 0);
        }
        OilHome y = Firms.loads(5);
        Checks.law(y, "l(1=1)" + Checks.times(";l(1=1)", 11));
        C.due("all hold", y.batch(1), 0);
        C.due("no law", Firms.loads(5).batch(1), 0);
    }

    private static void batchWithoutLitres() {
        OilHome x = Firms.kitchens(1);
        x.fetch(0, 0, 0, 1000, 999, 0);
        x.fetch(0, 0, 0, 500, 499, 0);
        Checks.law(x, "l(q=0&f=0&a=0)");
        C.due("passes", x.batch(3), 0);
        C.due("litres", x.batchIs(0, 0), 0);
        C.due("water", x.batchIs(0, 1), 0);
        C.due("acid", x.batchIs(0, 2), 0);
        C.due("free", x.batchIs(0, 3), 0);
        C.due("no proof of it", x.proof(0, 0, 1, 0), -1);
        C.due("no proof of it", x.proof(0, 0, 0, 0), -1);
        C.due("whence", x.whence(0, 0), -1);
    }

    private static void batchTogetherRoundedDown() {
        OilHome x = Firms.kitchens(1);
        x.fetch(0, 0, 1, 1, 0, 0);
        x.fetch(0, 0, 1, 0, 1, 0);
        x.fetch(0, 0, 0, 1000, 1000, 0);
        Checks.law(x, "l(f=0);l(a=0);l(q=2);l(n=3)");
        C.due("a half is 0", x.batch(7), 0);
        C.due("water", x.batchIs(0, 1), 0);
        OilHome y = Firms.kitchens(1);
        y.fetch(0, 0, 3, 2, 1, 0);
        y.fetch(0, 0, 1, 0, 1, 0);
        Checks.law(y, "l(f=1);l(a=1);l(q=4);l(n=2)");
        C.due("6 by 4 and 4 by 4", y.batch(3), 0);
        OilHome z = Firms.kitchens(1);
        for (int i = 0; i < 20; i++) {
            z.fetch(0, 0, 400, 1000, i == 0 ? 999 : 1000, 0);
        }
        z.batch(1048575);
        C.due("most litres", z.batchIs(0, 0), 8000);
        C.due("most water", z.batchIs(0, 1), 1000);
        C.due("acid below the most", z.batchIs(0, 2), 999);
    }

    private static void batchIsOfABatch() {
        OilHome x = Firms.loads(5, 6);
        C.due("no batches", x.batchIs(0, 0), -1);
        x.batch(1);
        x.batch(2);
        for (int what = 0; what < 5; what++) {
            int of = what;
            for (int b : new int[] {-1, 2, 10, MIN, MAX}) {
                C.due("batch " + b + ", what " + what, x.batchIs(b, of), -1);
            }
        }
        for (int what : new int[] {-1, 5, 6, MIN, MAX}) {
            C.due("what " + what, x.batchIs(0, what), -1);
        }
        int[][] due = {{5, 10, 20, 5, 1}, {6, 10, 20, 6, 2}};
        for (int b = 0; b < 2; b++) {
            for (int what = 0; what < 5; what++) {
                C.due("batchIs(" + b + ", " + what + ")", x.batchIs(b, what), due[b][what]);
            }
        }
    }

    private static void batchHasFreeLitres() {
        OilHome x = Firms.batch(10);
        C.due("all at first", x.batchIs(0, 3), 10);
        x.proof(0, 0, 1, 0);
        C.due("the first litre", x.batchIs(0, 3), 9);
        x.proof(0, 9, 10, 0);
        C.due("the last litre", x.batchIs(0, 3), 8);
        x.proof(0, 0, 1, 5);
        C.due("the first again", x.batchIs(0, 3), 8);
        x.proof(0, 1, 9, 0);
        C.due("none", x.batchIs(0, 3), 0);
        x.proof(0, 0, 10, 0);
        C.due("none", x.batchIs(0, 3), 0);
    }

    private static void lawToldAnewChangesNoBatch() {
        OilHome x = Firms.loads(5, 6);
        x.batch(1);
        C.due("a law that lets none pass", Checks.law(x, "l(1=2)"), 1);
        C.due("the batch stays", x.batchIs(0, 4), 1);
        C.due("batches", x.count(5), 1);
        C.due("its load stays in it", x.batch(1), -1);
        C.due("another does not pass", x.batch(2), -10);
        x.now(9);
        C.due("made on", x.count(40), 0);
    }

    // ---- blends

    private static void blendOfNone() {
        C.due("no loads", new OilHome().blend(), 0);
        C.due("all in batches", Firms.batch(5, 6).blend(), 0);
        OilHome x = Firms.kitchens(1);
        x.fetch(0, 0, 5, 0, 0, 1);
        C.due("none is known", x.blend(), 0);
        x.now(1);
        C.due("it is known", x.blend(), 1);
        Checks.law(x, "l(q>5)");
        C.due("none passes", x.blend(), 0);
        Checks.law(x, "l(q>4)");
        C.due("one passes", x.blend(), 1);
    }

    private static int[] ones(int n) {
        int[] litres = new int[n];
        java.util.Arrays.fill(litres, 1);
        return litres;
    }

    private static void blendOfTheFirstTwelve() {
        C.due("eleven", Firms.loads(ones(11)).blend(), 2047);
        C.due("twelve", Firms.loads(ones(12)).blend(), 4095);
        C.due("thirteen", Firms.loads(ones(13)).blend(), 4095);
        C.due("twenty", Firms.loads(ones(20)).blend(), 4095);
        C.due("sixty", Firms.loads(ones(60)).blend(), 4095);
        OilHome x = Firms.loads(ones(22));
        x.batch(255);
        C.due("8 to 19", x.blend(), 4095 << 8);
        x.batch(256);
        C.due("9 to 19: load 20 is none of them", x.blend(), 2047 << 9);
        x.batch(2047 << 9);
        C.due("none is left", x.blend(), 0);
        OilHome y = Firms.kitchens(1);
        for (int i = 0; i < 14; i++) {
            y.fetch(0, 0, 1, 0, 0, i == 3 ? 1 : 0);
        }
        C.due("without one that is not known", y.blend(), 8191 - 8);
        y.now(1);
        C.due("with it", y.blend(), 4095);
    }

    private static void blendOfLoadsKnownNow() {
        OilHome x = Firms.kitchens(1);
        x.fetch(0, 0, 1, 0, 0, 0);
        x.fetch(0, 0, 2, 0, 0, 5);
        x.fetch(0, 0, 4, 0, 0, 399);
        x.now(4);
        C.due("the day ahead", x.blend(), 1);
        x.now(5);
        C.due("the day it is told", x.blend(), 3);
        x.now(398);
        C.due("the day ahead of the last", x.blend(), 3);
        x.now(399);
        C.due("the last day", x.blend(), 7);
    }

    private static void blendByTheLettersOfNow() {
        OilHome x = Firms.kitchensOn(37, 2);
        x.price(5, 123);
        x.price(2, 7);
        x.fetch(1, 9, 5, 0, 0, 9);
        x.fetch(1, 20, 5, 0, 0, 20);
        Checks.law(x, "l(d=37&w=5&g=2&o=123&k=0&m=0&s=0)");
        C.due("though nothing was reckoned yet", x.blend(), 3);
        C.due("a load has others", x.pence(1), 0);
        Checks.contract(x, 1, "pd(m>0&s>0&k=1&w=2&o=7)");
        C.due("a load has others", x.pence(1), 20);
        C.due("behind that of a load", x.blend(), 3);
        x.now(38);
        C.due("another day", x.blend(), 0);
    }

    private static void blendOfMostLitres() {
        OilHome x = Firms.loads(10, 20, 40);
        for (int most = 0; most < 8; most++) {
            Checks.law(x, "l(q<" + (10 * most + 1) + ")");
            C.due("up to " + 10 * most + " litres", x.blend(), most);
        }
        Checks.law(x, "l(n<2)");
        C.due("one load", x.blend(), 4);
        Checks.law(x, "l(n=2)");
        C.due("two loads", x.blend(), 6);
    }

    private static void blendOfLikeOnes() {
        OilHome x = Firms.loads(10, 20, 30, 30, 0);
        Checks.law(x, "l(q<31)");
        C.due("the fewest loads, though a greater set; then the least", x.blend(), 4);
        Checks.law(x, "l(q<31);l(n=2)");
        C.due("of two the least set", x.blend(), 3);
        Checks.law(x, "l(q<31);l(n=2);l(1=1)");
        C.due("again", x.blend(), 3);
        OilHome y = Firms.loads(0, 30, 0, 30);
        Checks.law(y, "l(q<31)");
        C.due("without those of no litres", y.blend(), 2);
        Checks.law(y, "l(q<31);l(n>1)");
        C.due("with one of them", y.blend(), 3);
        C.due("most litres ahead of the fewest loads", Firms.loads(30, 1).blend(), 3);
    }

    private static void blendOfOneLoadAtLeast() {
        C.due("one without litres", Firms.loads(0).blend(), 1);
        C.due("of three without litres the first", Firms.loads(0, 0, 0).blend(), 1);
        OilHome x = Firms.loads(0, 0, 0);
        Checks.law(x, "l(n=0)");
        C.due("none is no blend", x.blend(), 0);
        Checks.law(x, "l(n=3)");
        C.due("all", x.blend(), 7);
    }

    // ---- proofs

    private static void proofIsOfLitresOfABatch() {
        C.bounds("proof of", 0, 1, 0, -1, b -> {
            OilHome x = Firms.loads(5, 6);
            x.batch(1);
            x.batch(2);
            return x.proof(b, 0, 1, 0);
        });
        C.due("no batch", Firms.loads(5).proof(0, 0, 1, 0), -1);
        C.bounds("from, to 5 of 5", 0, 4, 0, -1, from -> Firms.batch(5).proof(0, from, 5, 0));
        C.bounds("from, to 3 of 5", 0, 2, 0, -1, from -> Firms.batch(5).proof(0, from, 3, 0));
        C.bounds("to, from 0 of 5", 1, 5, 0, -1, to -> Firms.batch(5).proof(0, 0, to, 0));
        C.bounds("to, from 4 of 5", 5, 5, 0, -1, to -> Firms.batch(5).proof(0, 4, to, 0));
        C.bounds("to, from 2 of 5", 3, 5, 0, -1, to -> Firms.batch(5).proof(0, 2, to, 0));
        C.bounds("buyer", 0, 9, 0, -1, buyer -> Firms.batch(5).proof(0, 0, 5, buyer));
        C.due("from 5 to 5 of 5", Firms.batch(5).proof(0, 5, 5, 0), -1);
        C.due("from 0 to 0", Firms.batch(5).proof(0, 0, 0, 0), -1);
    }

    private static void proofsAreForty() {
        OilHome x = Firms.loads(5, 6);
        x.batch(1);
        x.batch(2);
        C.due("refused", x.proof(0, 0, 6, 0), -1);
        for (int p = 0; p < 40; p++) {
            C.due("proof " + p, x.proof(p % 2, 0, 1, p % 10), p);
        }
        C.due("a 41st", x.proof(0, 0, 1, 0), -1);
        C.due("a 41st of another", x.proof(1, 0, 1, 0), -1);
        C.due("proofs", x.count(6), 40);
        C.due("the last", x.tax(39), 0);
        C.due("behind the last", x.tax(40), -1);
        OilHome y = Firms.batch(50);
        for (int p = 0; p < 40; p++) {
            y.proof(0, 39 - p, 40 - p, 3);
        }
        C.due("forty, each with a litre of its own", y.bought(0, 3), 40);
        C.due("forty, each with a litre of its own", y.batchIs(0, 3), 10);
        C.due("none twice", y.twice(0), -1);
    }

    private static void twiceIsTheFirst() {
        OilHome x = Firms.loads(10, 10);
        for (int b : new int[] {-1, 0, 1, MIN, MAX}) {
            C.due("no batch " + b, x.twice(b), -1);
        }
        x.batch(1);
        x.batch(2);
        C.due("no proof", x.twice(0), -1);
        x.proof(0, 3, 6, 0);
        C.due("one proof", x.twice(0), -1);
        x.proof(0, 6, 10, 0);
        x.proof(0, 0, 3, 0);
        x.proof(1, 3, 6, 0);
        C.due("side by side, and of another batch", x.twice(0), -1);
        C.due("of another batch", x.twice(1), -1);
        x.proof(1, 5, 7, 0);
        C.due("one litre, the first of it", x.twice(1), 4);
        x.proof(0, 5, 6, 9);
        x.proof(0, 0, 10, 9);
        C.due("the first of two", x.twice(0), 5);
        C.due("still", x.twice(1), 4);
        C.due("batch 2", x.twice(2), -1);
        OilHome y = Firms.batch(10);
        y.proof(0, 3, 6, 0);
        y.proof(0, 0, 4, 0);
        C.due("one litre, the last of it", y.twice(0), 1);
        OilHome z = Firms.batch(10);
        z.proof(0, 0, 10, 0);
        z.proof(0, 4, 5, 0);
        C.due("within", z.twice(0), 1);
        OilHome v = Firms.batch(10);
        v.proof(0, 4, 5, 0);
        v.proof(0, 0, 10, 0);
        C.due("around", v.twice(0), 1);
        OilHome w = Firms.batch(10);
        w.proof(0, 4, 5, 0);
        w.proof(0, 4, 5, 0);
        C.due("the same", w.twice(0), 1);
    }

    private static void boughtIsOfABuyer() {
        C.bounds("bought of", 0, 0, 0, -1, b -> Firms.batch(5).bought(b, 0));
        C.bounds("bought by", 0, 9, 0, -1, buyer -> Firms.batch(5).bought(0, buyer));
        C.due("no batch", Firms.loads(5).bought(0, 0), -1);
    }

    private static void boughtEachLitreOnce() {
        OilHome x = Firms.loads(20, 20);
        x.batch(1);
        x.batch(2);
        x.proof(0, 5, 10, 3);
        x.proof(1, 0, 20, 3);
        x.proof(0, 10, 15, 3);
        C.due("side by side", x.bought(0, 3), 10);
        x.proof(0, 14, 16, 3);
        C.due("one litre again", x.bought(0, 3), 11);
        x.proof(0, 6, 8, 3);
        C.due("within", x.bought(0, 3), 11);
        x.proof(0, 0, 20, 4);
        C.due("another has all", x.bought(0, 4), 20);
        C.due("that changes nothing", x.bought(0, 3), 11);
        x.proof(0, 0, 20, 3);
        C.due("all", x.bought(0, 3), 20);
        C.due("of the other batch", x.bought(1, 3), 20);
        C.due("none of the other batch", x.bought(1, 4), 0);
    }

    // ---- whence, audits, taxes

    private static void whenceIsOfALitre() {
        C.bounds("whence of litre", 0, 4, 0, -1, l -> Firms.batch(5).whence(0, l));
        C.bounds("whence of batch", 0, 0, 0, -1, b -> Firms.batch(5).whence(b, 0));
        C.due("no batch", Firms.loads(5).whence(0, 0), -1);
        OilHome x = Firms.batch(0, 2, 0, 1, 3, 0);
        int[] due = {1, 1, 3, 4, 4, 4, -1};
        for (int l = 0; l < due.length; l++) {
            C.due("whence of " + l, x.whence(0, l), due[l]);
        }
        OilHome y = Firms.loads(ones(20));
        y.batch(1 << 19 | 1);
        C.due("load 0", y.whence(0, 0), 0);
        C.due("load 19", y.whence(0, 1), 19);
    }

    private static void auditIsOfAProofAndAKitchen() {
        OilHome x = Firms.kitchens(3);
        int[] litres = {4, 6, 5};
        for (int k = 0; k < 3; k++) {
            x.fetch(k, 0, litres[k], 0, 0, 0);
        }
        C.due("no proof", x.audit(0, 0), -1);
        x.batch(7);
        int[][] proofs = {{0, 4}, {3, 4}, {3, 5}, {4, 10}, {9, 10}, {10, 11}, {9, 11}, {14, 15}, {0, 15}};
        int[][] due = {{4, 0, 0}, {1, 0, 0}, {1, 1, 0}, {0, 6, 0}, {0, 1, 0}, {0, 0, 1}, {0, 1, 1}, {0, 0, 1}, {4, 6, 5}};
        for (int p = 0; p < proofs.length; p++) {
            C.due("proof " + p, x.proof(0, proofs[p][0], proofs[p][1], 0), p);
            for (int k = 0; k < 3; k++) {
                C.due("audit of " + p + " for " + k, x.audit(p, k), due[p][k]);
            }
        }
        for (int none : new int[] {-1, 9, 40, MIN, MAX}) {
            C.due("audit of " + none, x.audit(none, 0), -1);
        }
        for (int none : new int[] {-1, 3, 10, MIN, MAX}) {
            C.due("audit for " + none, x.audit(8, none), -1);
        }
    }

    private static void useOfABuyer() {
        C.bounds("use of", 0, 9, 1, 0, buyer -> Checks.of(new OilHome().use(buyer, 0)));
        C.bounds("use", 0, 3, 1, 0, use -> Checks.of(new OilHome().use(9, use)));
        OilHome x = Firms.batch(400);
        for (int use = 0; use < 4; use++) {
            x.rate(use, 0, 25 * (use + 1));
        }
        x.proof(0, 0, 400, 9);
        C.due("0 at first", x.tax(0), 100);
        for (int use = 3; use >= 0; use--) {
            C.yes("use " + use, x.use(9, use));
            C.due("as now", x.tax(0), 100 * (use + 1));
        }
        C.no("use 4", x.use(9, 4));
        C.no("use -1", x.use(9, -1));
        C.due("stays", x.tax(0), 100);
        x.use(0, 3);
        C.due("another's", x.tax(0), 100);
    }

    private static void rateOfAUseAndAWeek() {
        C.bounds("rate of use", 0, 3, 1, 0, use -> Checks.of(new OilHome().rate(use, 0, 0)));
        C.bounds("rate of use, week 57", 0, 3, 1, 0, use -> Checks.of(new OilHome().rate(use, 57, 1000)));
        for (int use = 0; use < 4; use++) {
            int of = use;
            C.bounds("rate of week", 0, 57, 1, 0, week -> Checks.of(new OilHome().rate(of, week, 0)));
        }
        C.bounds("rate", 0, 1000, 1, 0, pence -> Checks.of(new OilHome().rate(3, 57, pence)));
        OilHome x = Firms.batch(100);
        x.now(399);
        x.proof(0, 0, 100, 0);
        C.due("0 at first", x.tax(0), 0);
        x.rate(1, 0, 999);
        C.due("week 0 of use 1 is not week 58 of use 0", x.tax(0), 0);
        x.rate(0, 57, 7);
        C.due("week 57", x.tax(0), 7);
        x.use(0, 1);
        C.due("week 57 of use 1", x.tax(0), 0);
        C.no("week 58", x.rate(0, 58, 5));
        C.no("week -1", x.rate(2, -1, 5));
        C.due("week 57 of use 1", x.tax(0), 0);
        x.use(0, 0);
        C.due("stays", x.tax(0), 7);
    }

    private static void taxRoundedDown() {
        OilHome x = Firms.batch(400);
        C.due("no proofs", x.tax(0), -1);
        int[][] proofs = {{0, 1}, {0, 99}, {0, 100}, {0, 101}, {0, 400}};
        int[] rates = {0, 1, 2, 100, 1000};
        int[][] due = {{0, 0, 0, 1, 10}, {0, 0, 1, 99, 990}, {0, 1, 2, 100, 1000}, {0, 1, 2, 101, 1010}, {0, 4, 8, 400, 4000}};
        for (int p = 0; p < proofs.length; p++) {
            x.proof(0, proofs[p][0], proofs[p][1], 0);
        }
        for (int r = 0; r < rates.length; r++) {
            x.rate(0, 0, rates[r]);
            for (int p = 0; p < proofs.length; p++) {
                C.due("tax of " + p + " by " + rates[r], x.tax(p), due[p][r]);
            }
        }
        x.rate(0, 0, 33);
        C.due("33 of 400", x.tax(4), 132);
        C.due("33 of 99 is 32.67", x.tax(1), 32);
        for (int p : new int[] {-1, 5, 40, MIN, MAX}) {
            C.due("proof " + p, x.tax(p), -1);
        }
    }

    private static void taxOfTheWeekInWhichItWasTold() {
        OilHome x = Firms.batch(100);
        int[] days = {0, 6, 7, 13, 14, 398, 399};
        for (int day : days) {
            x.now(day);
            x.proof(0, 0, 100, 0);
        }
        for (int week = 0; week < 58; week++) {
            x.rate(0, week, week + 1);
        }
        for (int p = 0; p < days.length; p++) {
            C.due("told on " + days[p], x.tax(p), days[p] / 7 + 1);
        }
    }

    // ---- overdrawn

    private static void mostOfABuyer() {
        C.bounds("most of", 0, 9, 1, 0, buyer -> Checks.of(new OilHome().most(buyer, 0)));
        C.bounds("most", 0, 100000, 1, 0, litres -> Checks.of(new OilHome().most(9, litres)));
    }

    private static void overdrawnIfMore() {
        OilHome x = Firms.batch(100);
        C.bounds("overdrawn in", 0, 57, 0, -1, week -> x.overdrawn(week));
        C.due("no proofs: 0 is not more than 0", x.overdrawn(0), 0);
        x.proof(0, 0, 1, 9);
        C.due("1 is more than 0, as it is at first", x.overdrawn(0), 512);
        x.most(9, 1);
        C.due("1 is not more than 1", x.overdrawn(0), 0);
        x.proof(0, 0, 1, 9);
        C.due("together 2 are more than 1", x.overdrawn(0), 512);
        x.most(9, 2);
        C.due("2 are not more than 2", x.overdrawn(0), 0);
        x.proof(0, 0, 100, 0);
        x.most(0, 99);
        C.due("100 are more than 99", x.overdrawn(0), 1);
        C.no("-1", x.most(0, -1));
        C.no("100001", x.most(0, 100001));
        C.due("stays", x.overdrawn(0), 1);
        x.most(0, 100000);
        C.due("the most", x.overdrawn(0), 0);
        x.most(0, 0);
        x.most(9, 0);
        C.due("both", x.overdrawn(0), 513);
    }

    private static void overdrawnInItsWeek() {
        OilHome x = Firms.batch(100);
        int[] days = {0, 6, 7, 398, 399};
        for (int i = 0; i < days.length; i++) {
            x.now(days[i]);
            x.proof(0, 0, 1, i);
        }
        C.due("week 0", x.overdrawn(0), 3);
        C.due("week 1", x.overdrawn(1), 4);
        C.due("week 2", x.overdrawn(2), 0);
        C.due("week 56", x.overdrawn(56), 8);
        C.due("week 57", x.overdrawn(57), 16);
    }

    // ---- samples

    private static void sampleIsOfABatch() {
        C.bounds("sample of", 0, 0, 1, -1, b -> Firms.batch(5).sample(b, 0));
        C.bounds("sample", 0, 1000, 1, -1, water -> Firms.batch(5).sample(0, water));
        C.due("no batch", Firms.loads(5).sample(0, 0), -1);
    }

    private static void samplesAreTwelve() {
        OilHome x = Firms.loads(5, 6);
        x.batch(1);
        x.batch(2);
        C.due("refused", x.sample(0, 1001), -1);
        for (int n = 1; n <= 12; n++) {
            C.due("sample " + n, x.sample(0, n <= 6 ? 0 : 100), n);
        }
        C.due("half and half", x.claim(0, 100, 0), 2);
        C.due("a 13th", x.sample(0, 100), -1);
        C.due("half and half", x.claim(0, 100, 0), 2);
        for (int n = 1; n <= 12; n++) {
            C.due("of another, " + n, x.sample(1, 0), n);
        }
        C.due("a 13th of another", x.sample(1, 0), -1);
    }

    private static void claimIsOfThousandths() {
        C.bounds("claim of", 0, 0, 2, -1, b -> Firms.batch(5).claim(b, 0, 0));
        C.bounds("claim w", 0, 1000, 2, -1, w -> Firms.batch(5).claim(0, w, 0));
        C.bounds("claim e", 0, 1000, 2, -1, e -> Firms.batch(5).claim(0, 0, e));
        C.due("no batch", Firms.loads(5).claim(0, 0, 0), -1);
    }

    private static void claimByMoreThanHalf() {
        OilHome x = Firms.batch(5);
        C.due("no samples", x.claim(0, 500, 0), 2);
        x.sample(0, 500);
        C.due("as much", x.claim(0, 500, 0), 1);
        C.due("one more", x.claim(0, 501, 0), 0);
        C.due("one more, by an error of 1", x.claim(0, 501, 1), 1);
        C.due("two more, by an error of 1", x.claim(0, 502, 1), 0);
        C.due("an error above w", x.claim(0, 0, 1000), 1);
        x.sample(0, 400);
        C.due("half", x.claim(0, 500, 0), 2);
        C.due("half, though by an error of 99", x.claim(0, 500, 99), 2);
        C.due("both, by an error of 100", x.claim(0, 500, 100), 1);
        C.due("both are less", x.claim(0, 501, 0), 0);
        x.sample(0, 500);
        C.due("two of three", x.claim(0, 500, 0), 1);
        C.due("all of three", x.claim(0, 400, 0), 1);
        C.due("none of three", x.claim(0, 501, 0), 0);
        x.sample(0, 300);
        C.due("two of four", x.claim(0, 500, 0), 2);
        C.due("three of four", x.claim(0, 400, 0), 1);
        x.sample(0, 300);
        C.due("two of five", x.claim(0, 500, 0), 0);
        OilHome y = Firms.batch(5);
        y.sample(0, 0);
        C.due("0 is 0", y.claim(0, 0, 0), 1);
        C.due("0 is 1000 by 1000", y.claim(0, 1000, 1000), 1);
        C.due("0 is not 1000 by 999", y.claim(0, 1000, 999), 0);
        OilHome z = Firms.batch(5);
        z.sample(0, 1000);
        C.due("1000 is 1000", z.claim(0, 1000, 0), 1);
    }

    // ---- stock

    private static void spillIsUpToNow() {
        C.bounds("spill on, now 0", 0, 0, 1, -1, day -> new OilHome().spill(day, 1));
        C.bounds("spill on, now 9", 0, 9, 1, -1, day -> Firms.on(9).spill(day, 1));
        C.bounds("spill on, now 399", 0, 399, 1, -1, day -> Firms.on(399).spill(day, 1));
        C.bounds("spill of", 1, 400, 1, -1, litres -> new OilHome().spill(0, litres));
    }

    private static void spillsAreForty() {
        OilHome x = Firms.on(9);
        C.due("refused", x.spill(0, 401), -1);
        C.due("refused", x.spill(10, 1), -1);
        for (int n = 1; n <= 40; n++) {
            C.due("spill " + n, x.spill(n % 10, 1), n);
        }
        C.due("a 41st", x.spill(0, 1), -1);
        C.due("forty litres", x.stock(9), -40);
    }

    private static void stockOnADay() {
        C.bounds("stock on", 0, 399, 0, -1000000, day -> new OilHome().stock(day));
        OilHome x = Firms.kitchensOn(9, 1);
        x.fetch(0, 3, 100, 0, 0, 399);
        x.fetch(0, 6, 50, 0, 0, 9);
        x.spill(5, 7);
        x.batch(2);
        int[] due = {0, 0, 0, 100, 100, 93, 143, 143, 143, 93, 93};
        for (int day = 0; day < due.length; day++) {
            C.due("stock on " + day, x.stock(day), due[day]);
        }
        C.due("ahead of now", x.stock(399), 93);
    }

    private static void stockMayBeBelowZero() {
        OilHome x = Firms.kitchensOn(9, 1);
        x.spill(4, 400);
        C.due("on 3", x.stock(3), 0);
        C.due("on 4", x.stock(4), -400);
        x.fetch(0, 6, 399, 0, 0, 9);
        C.due("on 6", x.stock(6), -1);
        C.due("below 0", x.below(0), 4);
        C.due("below -400", x.below(-400), -2);
        C.due("below -399", x.below(-399), 4);
    }

    private static void belowSoMuch() {
        int[] litres = {MIN, -10001, -10000, -1, 0, 1, 10000, 10001, MAX};
        int[] due = {-1, -1, -2, -2, -2, 0, 0, -1, -1};
        for (int i = 0; i < litres.length; i++) {
            C.due("nothing below " + litres[i], new OilHome().below(litres[i]), due[i]);
        }
        OilHome x = Firms.loads(400);
        C.due("as much is not below", x.below(400), -2);
        C.due("one more", x.below(401), 0);
        C.due("one less", x.below(399), -2);
    }

    private static void belowUpToNow() {
        OilHome x = Firms.loads(400);
        x.now(5);
        x.batch(1);
        C.due("on the day of the batch", x.below(400), 5);
        C.due("at 0", x.below(0), -2);
        C.due("below 1", x.below(1), 5);
        OilHome y = Firms.loads(10);
        y.now(7);
        y.spill(7, 4);
        y.spill(2, 3);
        C.due("the first day", y.below(10), 2);
        C.due("7 are not below 7", y.below(7), 7);
        C.due("3 are not below 3", y.below(3), -2);
        C.due("below 4", y.below(4), 7);
        C.due("below 11: on day 0", y.below(11), 0);
        OilHome z = Firms.on(399);
        z.spill(399, 1);
        C.due("on the last day", z.below(0), 399);
    }
}
