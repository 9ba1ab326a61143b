/** Promises 8, 16 to 21, 47, 48, 54 and 55: batches by the law, blends, proofs, samples. */
public final class BatchesTest {
    private static final Checks C = new Checks("BatchesTest");

    public static void main(String[] args) {
        batch();
        manyBatches();
        mixes();
        lawLetters();
        batchIs();
        blend();
        likeBlends();
        firstTwelve();
        proofs();
        twice();
        bought();
        whence();
        audit();
        samples();
        claims();
        C.end();
    }

    /** One kitchen, loads of day 0 with these litres, water 10 each, acid 20 each, known at once. */
    private static OilHome loads(int... litres) {
        OilHome x = new OilHome();
        x.kitchen(0, 0, 10, 100);
        for (int l : litres) {
            x.fetch(0, 0, l, 10, 20, 0);
        }
        return x;
    }

    private static void batch() {
        OilHome x = loads(50, 60, 70);
        C.due("0", x.batch(0), -1);
        C.due("-1", x.batch(-1), -1);
        C.due("MIN", x.batch(Integer.MIN_VALUE), -1);
        C.due("1048576", x.batch(1048576), -1);
        C.due("1048577", x.batch(1048577), -1);
        C.due("a load that is not there", x.batch(8), -1);
        C.due("one of them is not there", x.batch(9), -1);
        x.fetch(0, 0, 80, 10, 20, 5);
        C.due("not known now", x.batch(9), -1);
        C.due("none was made", x.count(5), 0);
        C.due("law", Checks.law(x, "l(q>0);l(q<100|n>1);l(q>50)"), 3);
        C.due("by clause 2", x.batch(1), -12);
        C.due("NONE ahead of the law", x.batch(8), -1);
        C.due("another law", Checks.law(x, "l(q>50)"), 1);
        C.due("by clause 0", x.batch(1), -10);
        C.due("passes", x.batch(2), 0);
        C.due("in a batch", x.batch(2), -1);
        C.due("one of them in a batch", x.batch(7), -1);
        C.due("the others", x.batch(5), 1);
        x.now(4);
        C.due("known tomorrow", x.batch(8), -1);
        x.now(5);
        C.due("known today", x.batch(8), 2);
        C.due("made on", x.count(40), 0);
        C.due("made on", x.count(42), 5);
        C.due("a law anew", Checks.law(x, "l(1=0)"), 1);
        C.due("changes no batch", x.count(5), 3);
        C.due("changes no batch", x.batchIs(0, 0), 60);
    }

    private static void manyBatches() {
        OilHome x = loads(new int[21]);
        C.due("load 20 is none of them", x.batch(1 << 20), -1);
        for (int b = 0; b < 10; b++) {
            C.due("batch " + b, x.batch(1 << 19 - b), b);
        }
        C.due("an eleventh", x.batch(1), -1);
        Checks.law(x, "l(1=0)");
        C.due("an eleventh, ahead of the law", x.batch(1), -1);
        C.due("batches", x.count(5), 10);
        OilHome y = loads(new int[20]);
        C.due("all twenty", y.batch(1048575), 0);
        C.due("loads", y.batchIs(0, 4), 1048575);
    }

    private static void mixes() {
        OilHome x = new OilHome();
        x.kitchen(0, 0, 10, 100);
        x.fetch(0, 0, 3, 100, 1000, 0);
        x.fetch(0, 0, 4, 101, 0, 0);
        x.fetch(0, 0, 0, 900, 800, 0);
        x.fetch(0, 0, 400, 1000, 1000, 0);
        Checks.law(x, "l(f=100&a=428&q=7&n=3)");
        C.due("by all letters", x.batch(7), 0);
        C.due("water", x.batchIs(0, 1), 100);
        C.due("acid", x.batchIs(0, 2), 428);
        x.fetch(0, 0, 0, 900, 800, 0);
        Checks.law(x, "l(f=0&a=0&q=0&n=1)");
        C.due("without litres", x.batch(16), 1);
        C.due("water", x.batchIs(1, 1), 0);
        C.due("acid", x.batchIs(1, 2), 0);
        C.due("litres", x.batchIs(1, 0), 0);
    }

    private static void lawLetters() {
        OilHome x = loads(5, 5, 5, 5);
        x.now(37);
        x.price(5, 123);
        C.due("of now", Checks.law(x, "l(d=37);l(w=5);l(g=2);l(o=123);l(k=0);l(m=0);l(s=0);l(n=2)"), 8);
        C.due("none but the last", x.batch(1), -17);
        C.due("all", x.batch(3), 0);
        x.now(42);
        C.due("another day", x.batch(12), -10);
        Checks.law(x, "l(1/0=0|1=1)");
        C.due("refused", x.batch(12), -10);
        Checks.law(x, "l(1=1);l(!1%[n-2]=0)");
        C.due("refused", x.batch(12), -11);
        Checks.law(x, "l(1=1|1/0=0)");
        C.due("not asked", x.batch(12), 1);
    }

    private static void batchIs() {
        OilHome x = loads(50, 60);
        C.due("no batch", x.batchIs(0, 0), -1);
        x.batch(3);
        int[] due = {110, 10, 20, 110, 3};
        for (int what = 0; what < 5; what++) {
            C.due("batchIs(0, " + what + ")", x.batchIs(0, what), due[what]);
        }
        C.due("what 5", x.batchIs(0, 5), -1);
        C.due("what -1", x.batchIs(0, -1), -1);
        C.due("batch 1", x.batchIs(1, 0), -1);
        C.due("batch -1", x.batchIs(-1, 0), -1);
        x.proof(0, 10, 20, 0);
        x.proof(0, 15, 30, 1);
        x.proof(0, 29, 31, 0);
        x.proof(0, 100, 110, 0);
        C.due("free", x.batchIs(0, 3), 110 - 21 - 10);
        C.due("litres stay", x.batchIs(0, 0), 110);
        x.proof(0, 0, 110, 0);
        C.due("none is free", x.batchIs(0, 3), 0);
    }

    private static void blend() {
        OilHome x = new OilHome();
        C.due("no loads", x.blend(), 0);
        x.kitchen(0, 0, 10, 100);
        x.fetch(0, 0, 100, 10, 0, 0);
        x.fetch(0, 0, 90, 80, 0, 0);
        x.fetch(0, 0, 80, 30, 0, 0);
        x.fetch(0, 0, 70, 0, 0, 3);
        C.due("all that are known", x.blend(), 7);
        Checks.law(x, "l(f<40)");
        C.due("110 * 1 + 90 * 80 + 80 * 30 through 270 is 39", x.blend(), 7);
        Checks.law(x, "l(f<39)");
        C.due("0 and 2", x.blend(), 5);
        x.now(3);
        C.due("with 3, of water 0", x.blend(), 15);
        C.due("a batch of it", x.batch(4), 0);
        C.due("without 2", x.blend(), 11);
        Checks.law(x, "l(f<39);l(n=2)");
        C.due("two of them", x.blend(), 9);
        Checks.law(x, "l(q<171);l(q>160)");
        C.due("at most 170 litres", x.blend(), 9);
        Checks.law(x, "l(q<170);l(q>160)");
        C.due("160 and 170, but none between them", x.blend(), 0);
        Checks.law(x, "l(q>1000)");
        C.due("none", x.blend(), 0);
        Checks.law(x, "l(q>0-1)");
        x.batch(1);
        x.batch(2);
        x.batch(8);
        C.due("none is left", x.blend(), 0);
    }

    private static void likeBlends() {
        OilHome x = loads(30, 10, 20, 30, 0);
        C.due("the fewest loads, without that of 0 litres", x.blend(), 15);
        Checks.law(x, "l(q<31)");
        C.due("the least set of one", x.blend(), 1);
        Checks.law(x, "l(q<31);l(n=2)");
        C.due("10 and 20 as 30 and 0: the least set", x.blend(), 6);
        Checks.law(x, "l(q<31);l(n>1);l(n<4)");
        C.due("the fewest", x.blend(), 6);
        OilHome y = loads(0, 0, 0);
        C.due("without litres: one load", y.blend(), 1);
        Checks.law(y, "l(n>1)");
        C.due("without litres: two", y.blend(), 3);
        OilHome v = loads(10, 20, 30, 30);
        Checks.law(v, "l(q<31)");
        C.due("one load, though a greater set", v.blend(), 4);
        OilHome w = loads(10, 10, 10, 15, 15, 30);
        Checks.law(w, "l(q<31)");
        C.due("three, two, one", w.blend(), 32);
        Checks.law(w, "l(q<31);l(n>1)");
        C.due("three, two", w.blend(), 24);
        OilHome z = loads(10, 10, 20, 20);
        Checks.law(z, "l(q<31)");
        C.due("30 by 0 and 2", z.blend(), 5);
    }

    private static void firstTwelve() {
        int[] litres = new int[22];
        java.util.Arrays.fill(litres, 1);
        litres[12] = 100;
        litres[19] = 200;
        litres[20] = 300;
        OilHome x = loads(litres);
        C.due("the first twelve", x.blend(), 4095);
        x.batch(1);
        C.due("one more", x.blend(), 8190);
        Checks.law(x, "l(n<2)");
        C.due("the thirteenth", x.blend(), 4096);
        for (int i = 1; i < 7; i++) {
            x.batch(1 << i);
        }
        C.due("up to 18", x.blend(), 4096);
        x.batch(128);
        C.due("up to 19", x.blend(), 1 << 19);
        x.batch(1 << 19);
        C.due("20 is none of them", x.blend(), 4096);
    }

    private static void proofs() {
        OilHome x = loads(50, 60);
        C.due("no batch", x.proof(0, 0, 1, 0), -1);
        x.batch(1);
        C.due("batch 1", x.proof(1, 0, 1, 0), -1);
        C.due("batch -1", x.proof(-1, 0, 1, 0), -1);
        C.due("from -1", x.proof(0, -1, 1, 0), -1);
        C.due("nothing", x.proof(0, 7, 7, 0), -1);
        C.due("back", x.proof(0, 8, 7, 0), -1);
        C.due("to 51", x.proof(0, 0, 51, 0), -1);
        C.due("buyer -1", x.proof(0, 0, 50, -1), -1);
        C.due("buyer 10", x.proof(0, 0, 50, 10), -1);
        C.due("none is there", x.count(6), 0);
        x.now(3);
        for (int p = 0; p < 40; p++) {
            C.due("proof " + p, x.proof(0, p, p == 39 ? 50 : p + 1, p % 10), p);
        }
        C.due("a 41st", x.proof(0, 0, 1, 0), -1);
        C.due("proofs", x.count(6), 40);
        C.due("told on", x.count(89), 3);
        C.due("free", x.batchIs(0, 3), 0);
        C.due("of buyer 9", x.bought(0, 9), 14);
        C.due("none twice", x.twice(0), -1);
    }

    private static void twice() {
        OilHome x = loads(50, 60);
        x.batch(1);
        x.batch(2);
        C.due("none", x.twice(0), -1);
        x.proof(0, 10, 20, 0);
        x.proof(1, 10, 20, 0);
        x.proof(0, 20, 30, 0);
        x.proof(0, 0, 10, 0);
        C.due("side by side", x.twice(0), -1);
        C.due("side by side", x.twice(1), -1);
        x.proof(0, 29, 31, 0);
        x.proof(1, 0, 60, 5);
        x.proof(0, 0, 50, 0);
        C.due("by the last litre", x.twice(0), 4);
        C.due("by all", x.twice(1), 5);
        C.due("batch 2", x.twice(2), -1);
        C.due("batch -1", x.twice(-1), -1);
        OilHome y = loads(50);
        y.batch(1);
        y.proof(0, 10, 20, 0);
        y.proof(0, 19, 20, 0);
        C.due("within", y.twice(0), 1);
    }

    private static void bought() {
        OilHome x = loads(50, 60);
        x.batch(3);
        C.due("nothing", x.bought(0, 0), 0);
        x.proof(0, 40, 60, 1);
        x.proof(0, 10, 20, 1);
        x.proof(0, 15, 45, 1);
        x.proof(0, 15, 45, 2);
        x.proof(0, 100, 110, 1);
        C.due("each litre once", x.bought(0, 1), 60);
        C.due("another's", x.bought(0, 2), 30);
        C.due("of none", x.bought(0, 3), 0);
        C.due("batch 1", x.bought(1, 1), -1);
        C.due("batch -1", x.bought(-1, 1), -1);
        C.due("buyer 10", x.bought(0, 10), -1);
        C.due("buyer -1", x.bought(0, -1), -1);
    }

    private static void whence() {
        OilHome x = loads(0, 5, 9, 0, 3, 7);
        C.due("no batch", x.whence(0, 0), -1);
        x.batch(4 + 8 + 16);
        x.batch(1 + 2);
        int[] due = {2, 2, 2, 2, 2, 2, 2, 2, 2, 4, 4, 4, -1};
        for (int l = 0; l < due.length; l++) {
            C.due("whence(0, " + l + ")", x.whence(0, l), due[l]);
        }
        C.due("behind a load without litres", x.whence(1, 0), 1);
        C.due("litre 5", x.whence(1, 5), -1);
        C.due("litre -1", x.whence(0, -1), -1);
        C.due("batch 2", x.whence(2, 0), -1);
        C.due("batch -1", x.whence(-1, 0), -1);
    }

    private static void audit() {
        OilHome x = new OilHome();
        x.kitchen(0, 0, 10, 100);
        x.kitchen(0, 0, 10, 100);
        x.kitchen(0, 0, 10, 100);
        int[] litres = {10, 20, 30, 40};
        for (int i = 0; i < 4; i++) {
            x.fetch(i % 2, 0, litres[i], 0, 0, 0);
        }
        x.batch(8 + 2 + 1);
        x.batch(4);
        x.proof(0, 5, 65, 0);
        x.proof(0, 0, 10, 0);
        x.proof(0, 69, 70, 0);
        x.proof(1, 0, 30, 0);
        int[][] due = {{5, 55, 0}, {10, 0, 0}, {0, 1, 0}, {30, 0, 0}};
        for (int p = 0; p < due.length; p++) {
            for (int k = 0; k < 3; k++) {
                C.due("audit(" + p + ", " + k + ")", x.audit(p, k), due[p][k]);
            }
        }
        C.due("kitchen 3", x.audit(0, 3), -1);
        C.due("kitchen -1", x.audit(0, -1), -1);
        C.due("proof 4", x.audit(4, 0), -1);
        C.due("proof -1", x.audit(-1, 0), -1);
    }

    private static void samples() {
        OilHome x = loads(10, 10);
        C.due("no batch", x.sample(0, 1), -1);
        x.batch(1);
        x.batch(2);
        C.due("water -1", x.sample(0, -1), -1);
        C.due("water 1001", x.sample(0, 1001), -1);
        for (int n = 1; n <= 12; n++) {
            C.due("sample " + n, x.sample(0, n == 1 ? 1000 : 0), n);
        }
        C.due("a 13th", x.sample(0, 0), -1);
        C.due("of another", x.sample(1, 0), 1);
        C.due("batch 2", x.sample(2, 0), -1);
        C.due("batch -1", x.sample(-1, 0), -1);
    }

    private static void claims() {
        OilHome x = loads(10);
        C.due("no batch", x.claim(0, 0, 0), -1);
        x.batch(1);
        C.due("no samples", x.claim(0, 0, 1000), 2);
        x.sample(0, 50);
        C.due("at it", x.claim(0, 50, 0), 1);
        C.due("below it", x.claim(0, 51, 0), 0);
        C.due("by its error", x.claim(0, 60, 10), 1);
        C.due("beyond its error", x.claim(0, 61, 10), 0);
        x.sample(0, 70);
        C.due("half", x.claim(0, 60, 0), 2);
        C.due("both", x.claim(0, 50, 0), 1);
        C.due("none of both", x.claim(0, 71, 0), 0);
        x.sample(0, 60);
        C.due("two of three", x.claim(0, 60, 0), 1);
        C.due("one of three", x.claim(0, 61, 0), 0);
        C.due("one of three, by its error", x.claim(0, 61, 1), 1);
        C.due("all", x.claim(0, 0, 1000), 1);
        C.due("1000 by 950", x.claim(0, 1000, 950), 1);
        C.due("1000", x.claim(0, 1000, 0), 0);
        C.due("w -1", x.claim(0, -1, 0), -1);
        C.due("w 1001", x.claim(0, 1001, 0), -1);
        C.due("e -1", x.claim(0, 0, -1), -1);
        C.due("e 1001", x.claim(0, 0, 1001), -1);
        C.due("batch 1", x.claim(1, 0, 0), -1);
        C.due("batch -1", x.claim(-1, 0, 0), -1);
    }
}
