import java.util.ArrayList;
import java.util.List;
import java.util.function.ToLongFunction;

/**
 * "A call that is refused (NONE, false) changes nothing but the tape, where it is told": each refused call, and each
 * that only asks, is made on a firm of its own; then all that can be asked must answer as on one that was left alone.
 */
public final class RefusedTest {
    private static final Checks C = new Checks("RefusedTest");
    private static final int MIN = Integer.MIN_VALUE;
    private static final int MAX = Integer.MAX_VALUE;

    /** All that can be asked of a firm, with what the answers are of, so that a change can be told. */
    private static final class Asked {
        final List<String> calls = new ArrayList<>();
        final List<Long> answers = new ArrayList<>();

        void add(String call, long answer) {
            calls.add(call);
            answers.add(answer);
        }
    }

    public static void main(String[] args) {
        Asked firm = asked(firm());
        Asked full = askedOfFull(full());
        C.due("all that is asked is within 512 calls", firm.calls.size() < 400 && full.calls.size() < 200 ? 1 : 0, 1);
        C.due("the tape is right at first", firm.answers.get(firm.answers.size() - 1), -1);
        refusedOfDaysAndKitchens();
        refusedOfTexts();
        refusedOfRounds();
        refusedOfBatches();
        refusedOfProofs();
        refusedOfOffers();
        refusedOfWinter();
        refusedOfDrumsAndStock();
        onlyAsked();
        tapeIsEmptyAndNothingElse();
        refusedWhereAllIsFull();
        C.end();
    }

    // ---- firms

    /** A firm with some of everything; the tape has what is right of kitchen 1. */
    private static OilHome firm() {
        OilHome x = new OilHome();
        x.now(20);
        x.kitchen(10, 0, 10, 100);
        x.kitchen(0, 10, 20, 100);
        x.kitchen(10, 10, 0, 200);
        Checks.contract(x, 0, "pq+o(m>0);pf(1=1)");
        Checks.contract(x, 1, "p7*m+q(1=1)");
        Checks.law(x, "l(f<350);l(q<200)");
        x.price(1, 50);
        x.fetch(0, 8, 60, 20, 5, 12);
        x.fetch(1, 7, 95, 300, 0, 7);
        x.fetch(1, 14, 50, 400, 20, 14);
        x.fetch(2, 15, 40, 10, 0, 20);
        x.fetch(0, 16, 20, 30, 5, 30);
        x.batch(3);
        x.proof(0, 10, 70, 4);
        x.proof(0, 60, 80, 9);
        x.use(4, 2);
        x.rate(2, 2, 250);
        x.most(4, 60);
        x.sample(0, 100);
        x.sample(0, 140);
        x.offers(0, 30, 0);
        x.offers(1, 50, 60);
        x.thefts(23, 5);
        x.thefts(5, 8);
        x.sewer(9, 5);
        x.blocked(0);
        x.degrees(8, -5);
        x.feast(7, 50);
        x.street(1, 3);
        x.lorry(150);
        x.lorry(100);
        x.off(1, 30, true);
        x.drum();
        x.drum();
        x.moves(0, 1, 5);
        x.moves(0, 2, 12);
        x.spill(10, 5);
        Checks.feedNumbers(x, 1, 7, 95, 0, 2, 14, 50, 40);
        return x;
    }

    private static void askCounts(OilHome x, Asked asked) {
        int[] counts = {0, 1, 2, 3, 4, 5, 6, 7, 8, 9, 10, 11, 12, 13, 20, 21, 22, 23, 30, 31, 32, 33, 40, 41, 50, 51, 52};
        for (int what : counts) {
            asked.add("count(" + what + ")", x.count(what));
        }
        for (int k = 0; k < 3; k++) {
            asked.add("likely", x.likely(k, 20));
            asked.add("paid", x.paid(k, 20));
            asked.add("late", x.late(k, 15));
            asked.add("audit", x.audit(0, k));
            for (int j = 0; j < 3; j++) {
                asked.add("asIf", x.asIf(k, j));
            }
        }
        for (int i = 0; i < 6; i++) {
            asked.add("pence", x.pence(i));
            asked.add("missing", x.missing(i));
            asked.add("feasted", x.feasted(i, 0));
        }
    }

    private static void askLuck(OilHome x, Asked asked) {
        for (int what = 0; what < 3; what++) {
            asked.add("beyond", x.beyond(0, what));
            asked.add("streets", x.streets(3, what));
            asked.add("cheat", x.cheat(1, 300, what));
            asked.add("nights", x.nights(21, 3, 20, what));
            asked.add("offer", x.offer(100, what));
        }
        for (int what = -1; what < 3; what++) {
            asked.add("round", x.round(28, 50, what));
            asked.add("shared", x.shared(28, 50, what));
            asked.add("shared, one off", x.shared(30, 50, what));
        }
        for (int h = 1; h <= 12; h++) {
            asked.add("lock", x.lock(h, 0));
            asked.add("saves", x.lock(h, 1));
        }
        for (int p = 0; p <= 60; p += 10) {
            asked.add("worth", x.worth(p, 100));
        }
        for (int day = 0; day < 400; day += 8) {
            asked.add("first", x.first(day, 15));
        }
    }

    private static void askBatches(OilHome x, Asked asked) {
        for (int what = 0; what < 5; what++) {
            asked.add("batchIs", x.batchIs(0, what));
        }
        asked.add("blend", x.blend());
        asked.add("twice", x.twice(0));
        for (int buyer = 0; buyer < 10; buyer++) {
            asked.add("bought", x.bought(0, buyer));
        }
        for (int p = 0; p < 3; p++) {
            asked.add("tax", x.tax(p));
            asked.add("overdrawn", x.overdrawn(p));
        }
        for (int l = 0; l < 156; l += 31) {
            asked.add("whence", x.whence(0, l));
        }
        for (int w = 100; w <= 160; w += 20) {
            asked.add("claim", x.claim(0, w, 0));
        }
        for (int day = 0; day <= 21; day++) {
            asked.add("stock", x.stock(day));
        }
        for (int day = 0; day <= 20; day += 4) {
            asked.add("stood", x.stood(0, day));
            asked.add("stood", x.stood(1, day));
            asked.add("stale", x.stale(day));
        }
        asked.add("below", x.below(90));
        asked.add("beside", x.beside(6, 1));
        asked.add("beside", x.beside(6, 2));
    }

    /** What only shows by telling more comes last: no call behind it asks for what is changed by it; the tape at the end. */
    private static void askByTelling(OilHome x, Asked asked) {
        asked.add("by a batch that does not pass", x.batch(4));
        asked.add("by a blocked sewer", x.blocked(0));
        asked.add("by a sample", x.sample(0, 0));
        asked.add("by a spill", x.spill(20, 1));
        asked.add("by a batch", x.batch(8));
        asked.add("by a proof", x.proof(0, 0, 1, 0));
        asked.add("by a kitchen", x.kitchen(0, 0, 0, 20));
        asked.add("by a sewer", x.sewer(0, 0));
        asked.add("by a lorry", x.lorry(20));
        asked.add("by a drum", x.drum());
        asked.add("by a move", Checks.of(x.moves(1, 0, 20)));
        asked.add("by a lorry that is off", Checks.of(x.off(0, 30, false)));
        asked.add("by the other", Checks.of(x.off(1, 30, true)));
        asked.add("by a fetch", x.fetch(0, 16, 1, 0, 0, 16));
        asked.add("by the day", Checks.of(x.now(19)));
        asked.add("by the day", Checks.of(x.now(20)));
        asked.add("bytes of the tape", x.count(3));
        asked.add("what is on the tape", x.check(1, 2));
    }

    private static Asked asked(OilHome x) {
        Asked asked = new Asked();
        askCounts(x, asked);
        askLuck(x, asked);
        askBatches(x, asked);
        askByTelling(x, asked);
        return asked;
    }

    private static void compare(String call, Asked got, Asked due) {
        for (int i = 0; i < due.answers.size(); i++) {
            if (!got.answers.get(i).equals(due.answers.get(i))) {
                C.due("behind " + call + ": " + due.calls.get(i), got.answers.get(i), due.answers.get(i));
                return;
            }
        }
        C.due("behind " + call, 0, 0);
    }

    private static void same(String call, long due, ToLongFunction<OilHome> made) {
        OilHome x = firm();
        C.due(call, made.applyAsLong(x), due);
        compare(call, asked(x), asked(firm()));
    }

    private static void none(String call, ToLongFunction<OilHome> made) {
        same(call, -1, made);
    }

    private static void no(String call, java.util.function.Predicate<OilHome> made) {
        same(call, 0, x -> Checks.of(made.test(x)));
    }

    // ---- what is refused

    private static void refusedOfDaysAndKitchens() {
        for (int day : new int[] {19, 0, -1, 400, MIN, MAX}) {
            no("now(" + day + ")", x -> x.now(day));
        }
        int[][] kitchens = {{-1, 0, 0, 20}, {100, 0, 0, 20}, {0, -1, 0, 20}, {0, 100, 0, 20}, {0, 0, -1, 20}, {0, 0, 51, 20},
            {0, 0, 0, 19}, {0, 0, 0, 401}};
        for (int[] k : kitchens) {
            none("kitchen" + java.util.Arrays.toString(k), x -> x.kitchen(k[0], k[1], k[2], k[3]));
        }
        int[][] fetches = {{-1, 20, 1, 1, 1, 20}, {3, 20, 1, 1, 1, 20}, {0, 15, 1, 1, 1, 20}, {0, 21, 1, 1, 1, 21},
            {0, -1, 1, 1, 1, 20}, {0, 20, -1, 1, 1, 20}, {0, 20, 401, 1, 1, 20}, {0, 20, 1, -1, 1, 20}, {0, 20, 1, 1001, 1, 20},
            {0, 20, 1, 1, -1, 20}, {0, 20, 1, 1, 1001, 20}, {0, 20, 1, 1, 1, 19}, {0, 20, 1, 1, 1, 400}};
        for (int[] f : fetches) {
            none("fetch" + java.util.Arrays.toString(f), x -> x.fetch(f[0], f[1], f[2], f[3], f[4], f[5]));
        }
        for (int k : new int[] {-1, 3, MIN, MAX}) {
            no("street of " + k, x -> x.street(k, 1));
        }
        for (int s : new int[] {-1, 10, MIN, MAX}) {
            no("street " + s, x -> x.street(1, s));
        }
    }

    private static void refusedOfTexts() {
        for (int n : new int[] {0, -1, 41, 160, 161, MIN, MAX}) {
            none("contract of " + n + " bytes", x -> x.contract(0, n));
            none("law of " + n + " bytes", x -> x.law(n));
            same("check of " + n, -2, x -> x.check(1, n == 0 ? 3 : n));
        }
        for (int k : new int[] {-1, 3, MIN, MAX}) {
            none("contract of " + k, x -> x.contract(k, 20));
            same("check of kitchen " + k, -2, x -> x.check(k, 2));
        }
        for (int week : new int[] {-1, 58, MIN, MAX}) {
            no("price of week " + week, x -> x.price(week, 9));
        }
        for (int pence : new int[] {-1, 1001, MIN, MAX}) {
            no("price " + pence, x -> x.price(1, pence));
        }
    }

    private static void refusedOfRounds() {
        for (int n : new int[] {-1, 21, 40, 41, MIN, MAX}) {
            none("driven by " + n, x -> x.driven(n));
        }
        for (int litres : new int[] {19, 2001, 0, -1, MIN, MAX}) {
            none("lorry of " + litres, x -> x.lorry(litres));
        }
        for (int l : new int[] {-1, 2, MIN, MAX}) {
            no("off of " + l, x -> x.off(l, 30, true));
            no("off of " + l + ", not any more", x -> x.off(l, 30, false));
        }
        for (int day : new int[] {-1, 400, MIN, MAX}) {
            no("off on " + day, x -> x.off(0, day, true));
        }
        no("off, it is so", x -> x.off(1, 30, true));
        no("not off, it is so", x -> x.off(0, 30, false));
    }

    private static void refusedOfBatches() {
        int[] sets = {0, -1, 1, 2, 16, 32, 1 << 19, 1 << 20, 8 | 1, 8 | 16, 8 | 32, MIN, MAX};
        for (int set : sets) {
            none("batch of " + set, x -> x.batch(set));
        }
        same("a batch that does not pass", -10, x -> x.batch(4));
        for (int b : new int[] {-1, 1, MIN, MAX}) {
            none("sample of " + b, x -> x.sample(b, 1));
        }
        for (int water : new int[] {-1, 1001, MIN, MAX}) {
            none("sample " + water, x -> x.sample(0, water));
        }
    }

    private static void refusedOfProofs() {
        int[][] proofs = {{-1, 0, 1, 0}, {1, 0, 1, 0}, {0, -1, 1, 0}, {0, 1, 1, 0}, {0, 2, 1, 0}, {0, 0, 156, 0}, {0, 155, 156, 0},
            {0, 0, 1, -1}, {0, 0, 1, 10}};
        for (int[] p : proofs) {
            none("proof" + java.util.Arrays.toString(p), x -> x.proof(p[0], p[1], p[2], p[3]));
        }
        for (int buyer : new int[] {-1, 10, MIN, MAX}) {
            no("use of " + buyer, x -> x.use(buyer, 1));
            no("most of " + buyer, x -> x.most(buyer, 1));
        }
        for (int use : new int[] {-1, 4, MIN, MAX}) {
            no("use " + use, x -> x.use(4, use));
            no("rate of use " + use, x -> x.rate(use, 2, 9));
        }
        for (int week : new int[] {-1, -56, 58, 60, MIN, MAX}) {
            no("rate of week " + week, x -> x.rate(2, week, 9));
            no("rate of week " + week + " of use 1", x -> x.rate(1, week, 9));
            no("rate of week " + week + " of use 3", x -> x.rate(3, week, 9));
        }
        for (int pence : new int[] {-1, 1001, MIN, MAX}) {
            no("rate " + pence, x -> x.rate(2, 2, pence));
        }
        for (int litres : new int[] {-1, 100001, MIN, MAX}) {
            no("most " + litres, x -> x.most(4, litres));
        }
    }

    private static void refusedOfOffers() {
        for (int k : new int[] {-1, 3, MIN, MAX}) {
            no("offers of " + k, x -> x.offers(k, 1, 1));
        }
        for (int p : new int[] {-1, 201, MIN, MAX}) {
            no("least " + p, x -> x.offers(1, p, 1));
            no("rival " + p, x -> x.offers(1, 1, p));
        }
        for (int hour : new int[] {-1, 24, MIN, MAX}) {
            no("thefts at " + hour, x -> x.thefts(hour, 9));
        }
        for (int n : new int[] {-1, 1001, MIN, MAX}) {
            no("thefts " + n, x -> x.thefts(5, n));
        }
    }

    private static void refusedOfWinter() {
        for (int place : new int[] {-1, 100, MIN, MAX}) {
            none("sewer at " + place, x -> x.sewer(place, 0));
            none("sewer at 0, " + place, x -> x.sewer(0, place));
        }
        for (int i : new int[] {-1, 1, 10, MIN, MAX}) {
            none("blocked " + i, x -> x.blocked(i));
        }
        for (int day : new int[] {-1, 400, MIN, MAX}) {
            no("degrees on " + day, x -> x.degrees(day, -40));
            no("feast on " + day, x -> x.feast(day, 300));
        }
        for (int n : new int[] {-41, 41, MIN, MAX}) {
            no("degrees " + n, x -> x.degrees(8, n));
        }
        for (int more : new int[] {-1, 301, MIN, MAX}) {
            no("feast of " + more, x -> x.feast(7, more));
        }
    }

    private static void refusedOfDrumsAndStock() {
        for (int i : new int[] {-1, 2, 20, MIN, MAX}) {
            no("moves of " + i, x -> x.moves(i, 0, 20));
        }
        for (int k : new int[] {-2, 3, MIN, MAX}) {
            no("moves to " + k, x -> x.moves(0, k, 20));
        }
        for (int day : new int[] {-1, 11, 21, 400, MIN, MAX}) {
            no("moves on " + day, x -> x.moves(0, 0, day));
        }
        for (int day : new int[] {-1, 21, 400, MIN, MAX}) {
            none("spill on " + day, x -> x.spill(day, 1));
        }
        for (int litres : new int[] {0, -1, 401, MIN, MAX}) {
            none("spill of " + litres, x -> x.spill(9, litres));
        }
    }

    /** What only asks changes nothing, whether it is answered or not. */
    private static void onlyAsked() {
        same("nights", 2, x -> x.nights(28, 1, 50, 2));
        same("nights that can't be", -2, x -> x.nights(15, 7, 50, 0));
        none("nights that are none", x -> x.nights(394, 7, 50, 0));
        same("round", 40, x -> x.round(28, 50, -1));
        same("round that can't be", -2, x -> x.round(15, 50, -1));
        same("shared", 40, x -> x.shared(28, 50, -1));
        same("shared that can't be", -2, x -> x.shared(15, 50, -1));
        same("blend", 12, x -> x.blend());
        same("asIf", 7 * 12 + 60 + 7 * 52 + 20, x -> x.asIf(0, 1));
        same("paid", 60 + 50, x -> x.paid(0, 12));
        same("pence", 110, x -> x.pence(0));
        same("feasted", 80 + 5, x -> x.feasted(0, 0));
        same("late", 1, x -> x.late(0, 15));
        same("first", 9, x -> x.first(8, 15));
        same("lock", 8, x -> x.lock(1, 1));
        same("offer", 60, x -> x.offer(100, 0));
        same("worth", 700, x -> x.worth(30, 100));
        same("beside", 4, x -> x.beside(6, 1));
        same("claim", 2, x -> x.claim(0, 120, 0));
        same("stale", 1, x -> x.stale(8));
        same("stood", 2, x -> x.stood(0, 12));
        same("stock", 265 - 5 - 155, x -> x.stock(20));
        same("below", 0, x -> x.below(1));
        same("audit", 50, x -> x.audit(0, 0));
        same("tax", 150, x -> x.tax(0));
        same("overdrawn", 512, x -> x.overdrawn(2));
        same("twice", 1, x -> x.twice(0));
        same("bought", 60, x -> x.bought(0, 4));
        same("whence", 1, x -> x.whence(0, 60));
        same("cheat", 2, x -> x.cheat(1, 300, 2));
    }

    /** A FAULT, and KITCHENS that are not there, are refused too: the tape is empty then, but nothing else is changed. */
    private static void tapeIsEmptyAndNothingElse() {
        Asked due = asked(emptyTape());
        C.due("the tape has not so many any more", due.answers.get(due.answers.size() - 1), -2);
        List<ToLongFunction<OilHome>> faults = List.of(x -> x.contract(0, 20), x -> x.contract(1, 40), x -> x.law(40),
            x -> x.law(1), x -> x.contract(2, 1));
        for (ToLongFunction<OilHome> fault : faults) {
            OilHome x = firm();
            C.due("a fault at the start", fault.applyAsLong(x), -1000);
            C.due("the tape is empty", x.count(3), 0);
            compare("a fault", asked(x), due);
        }
        OilHome y = firm();
        C.due("0, 0, 0, 1, 0, 0, 0, 7: no kitchen 7", y.driven(8), -1);
        compare("driven to no kitchen", asked(y), due);
        OilHome z = firm();
        C.due("0, 0, 0, 1", z.driven(4), 40);
        compare("driven", asked(z), due);
        OilHome v = firm();
        C.due("right", v.check(1, 2), -1);
        compare("check", asked(v), due);
        OilHome w = firm();
        C.due("not right", w.check(0, 2), 0);
        compare("check of another", asked(w), due);
    }

    private static OilHome emptyTape() {
        OilHome x = firm();
        x.driven(0);
        return x;
    }

    // ---- a firm in which all is full

    private static OilHome full() {
        OilHome x = new OilHome();
        for (int i = 0; i < 10; i++) {
            x.kitchen(i, i, 10, 100);
            x.sewer(i, i);
            x.feed(0, 0, 1, 0, 6);
        }
        for (int i = 0; i < 60; i++) {
            x.fetch(i % 10, 0, 5, 10, 10, 0);
        }
        for (int i = 0; i < 10; i++) {
            x.batch(1 << i);
        }
        for (int i = 0; i < 20; i++) {
            x.drum();
        }
        for (int i = 0; i < 60; i++) {
            x.moves(i % 20, i % 10, 0);
        }
        for (int i = 0; i < 40; i++) {
            x.spill(0, 1);
            x.proof(i % 10, 0, 1, 0);
        }
        for (int i = 0; i < 12; i++) {
            x.sample(0, i < 6 ? 0 : 100);
        }
        for (int i = 0; i < 3; i++) {
            x.lorry(400);
        }
        return x;
    }

    private static Asked askedOfFull(OilHome x) {
        Asked asked = new Asked();
        for (int what = 0; what < 10; what++) {
            asked.add("count(" + what + ")", x.count(what));
        }
        for (int i = 0; i < 20; i++) {
            asked.add("stood", x.stood(i, 0));
        }
        for (int b = 0; b < 10; b++) {
            asked.add("free", x.batchIs(b, 3));
            asked.add("loads", x.batchIs(b, 4));
            asked.add("emptied", x.count(20 + b));
        }
        asked.add("bought", x.bought(0, 9));
        asked.add("blend", x.blend());
        asked.add("stock", x.stock(0));
        asked.add("claim", x.claim(0, 100, 0));
        asked.add("shared", x.shared(1, 11, -1));
        asked.add("tape", x.driven(20));
        return asked;
    }

    private static void full(String call, ToLongFunction<OilHome> made, long due) {
        OilHome x = full();
        C.due(call, made.applyAsLong(x), due);
        compare(call, askedOfFull(x), askedOfFull(full()));
    }

    private static void refusedWhereAllIsFull() {
        OilHome x = full();
        int[] due = {0, 10, 60, 200, 0, 10, 40, 10, 3, 20};
        for (int what = 0; what < due.length; what++) {
            C.due("full count(" + what + ")", x.count(what), due[what]);
        }
        full("an 11th kitchen", y -> y.kitchen(0, 0, 0, 20), -1);
        full("a 61st load", y -> y.fetch(0, 0, 1, 0, 0, 0), -1);
        full("an 11th batch", y -> y.batch(1 << 10), -1);
        full("a 41st proof", y -> y.proof(0, 0, 1, 9), -1);
        full("an 11th sewer", y -> y.sewer(0, 0), -1);
        full("a fourth lorry", y -> y.lorry(20), -1);
        full("a 21st drum", y -> y.drum(), -1);
        full("a 61st move", y -> Checks.of(y.moves(0, -1, 0)), 0);
        full("a 41st spill", y -> y.spill(0, 1), -1);
        full("a 13th sample", y -> y.sample(0, 100), -1);
        full("a 201st byte", y -> y.feed(9, 9, 9, 9, 9), -1);
    }
}
