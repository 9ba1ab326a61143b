import java.util.ArrayList;
import java.util.List;
import java.util.Random;

/**
 * Made-up firms again, for what OracleTest does not ask: what is likely, ways that were driven, offers, thefts, sewers,
 * winter, drums, taxes, samples, checks and counts, told and asked in turn, with numbers at their bounds and beyond. The
 * model keeps what was told as it was told, and answers each question from the whole of it.
 */
public final class LedgerOracleTest {
    private static final Checks C = new Checks("LedgerOracleTest");
    private static final Random R = new Random(60);
    private static final int PROMISED = 512;

    private final OilHome x = new OilHome();
    private int calls;
    private int now;
    /** Each row is what was told, in the order of the call's arguments, and what the model adds behind it. */
    private final List<int[]> kitchens = new ArrayList<>();
    private final List<int[]> offers = new ArrayList<>();
    private final List<int[]> thefts = new ArrayList<>();
    private final List<int[]> sewers = new ArrayList<>();
    private final List<int[]> degrees = new ArrayList<>();
    private final List<int[]> loads = new ArrayList<>();
    private final List<int[]> streets = new ArrayList<>();
    private final List<int[]> moves = new ArrayList<>();
    private final List<int[]> batches = new ArrayList<>();
    private final List<int[]> proofs = new ArrayList<>();
    private final List<int[]> uses = new ArrayList<>();
    private final List<int[]> rates = new ArrayList<>();
    private final List<int[]> mosts = new ArrayList<>();
    private final List<int[]> samples = new ArrayList<>();
    private int drums;
    private int tape;

    public static void main(String[] args) {
        for (int run = 0; run < 400; run++) {
            new LedgerOracleTest().run();
        }
        C.end();
    }

    private void run() {
        // Each firm is told more of one kind, so that much comes to its bound.
        int kind = R.nextInt(8);
        // A check takes twelve calls, each other step one.
        while (calls <= PROMISED - 12) {
            calls++;
            switch (R.nextBoolean() ? kind : R.nextInt(8)) {
                case 0:
                    tellOfKitchens();
                    break;
                case 1:
                    offersAndThefts();
                    break;
                case 2:
                    sewersAndWinter();
                    break;
                case 3:
                    drums();
                    break;
                case 4:
                    tellOfBatches();
                    break;
                case 5:
                    taxes();
                    break;
                case 6:
                    samplesAndChecks();
                    break;
                default:
                    int what = near(0, 89);
                    C.due("count " + what, x.count(what), count(what));
                    break;
            }
        }
    }

    // ---- numbers

    private static int from(int least, int most) {
        return least + R.nextInt(most - least + 1);
    }

    /** Most are between, some at a bound, few behind it. */
    private static int near(int least, int most) {
        switch (R.nextInt(16)) {
            case 0:
                return least;
            case 1:
                return most;
            case 2:
                return R.nextInt(6) > 0 ? least : least - 1;
            case 3:
                return R.nextInt(6) > 0 ? most : most + 1;
            default:
                return from(least, most);
        }
    }

    private static int oneOf(List<int[]> rows) {
        return near(0, Math.max(0, rows.size() - 1));
    }

    private static boolean is(List<int[]> rows, int i) {
        return 0 <= i && i < rows.size();
    }

    private static boolean in(int least, int value, int most) {
        return least <= value && value <= most;
    }

    /** What was told last of these first numbers, or what holds at first. */
    private static int[] last(List<int[]> rows, int[] atFirst, int... key) {
        int[] found = atFirst;
        for (int[] row : rows) {
            boolean same = true;
            for (int i = 0; i < key.length; i++) {
                same = same && row[i] == key[i];
            }
            found = same ? row : found;
        }
        return found;
    }

    /** Keeps a row if it may be told, and asks whether the call says so. */
    private static void told(String call, boolean answer, boolean due, List<int[]> rows, int... row) {
        C.due(call + java.util.Arrays.toString(row), Checks.of(answer), Checks.of(due));
        if (due) {
            rows.add(row);
        }
    }

    private static void numbered(String call, int answer, boolean due, List<int[]> rows, int... row) {
        C.due(call + java.util.Arrays.toString(row), answer, due ? rows.size() : -1);
        if (due) {
            rows.add(row);
        }
    }

    // ---- kitchens and what is fetched

    private void tellOfKitchens() {
        int k = oneOf(kitchens);
        switch (R.nextInt(7)) {
            case 0:
                int[] p = {near(0, 99), near(0, 99), R.nextInt(3) == 0 ? 0 : near(0, 50), near(20, 400)};
                boolean may = in(0, p[0], 99) && in(0, p[1], 99) && in(0, p[2], 50) && in(20, p[3], 400);
                numbered("kitchen", x.kitchen(p[0], p[1], p[2], p[3]), may && kitchens.size() < 10, kitchens, p);
                break;
            case 1:
                // A firm that comes to the last day early has little left to tell.
                int day = R.nextInt(20) > 0 ? Math.min(400, now + from(-1, 9)) : near(0, 399);
                boolean is = in(now, day, 399);
                C.due("now " + day, Checks.of(x.now(day)), Checks.of(is));
                now = is ? day : now;
                break;
            case 2:
                int s = near(0, 9);
                told("street", x.street(k, s), is(kitchens, k) && in(0, s, 9), streets, k, s);
                break;
            case 3:
                int on = near(Math.min(399, emptied(k)), 399);
                int likely = is(kitchens, k) ? Math.min(kitchens.get(k)[3], kitchens.get(k)[2] * (on - emptied(k))) : -1;
                C.due("likely", x.likely(k, on), in(emptied(k), on, 399) ? likely : -1);
                break;
            case 4:
                drive();
                break;
            default:
                int[] l = {k, near(emptied(k), now > emptied(k) ? now : emptied(k)), near(0, 400), near(0, 1000), near(0, 1000),
                    0, emptied(k)};
                l[5] = R.nextInt(9) > 0 ? l[1] : near(Math.min(l[1], 399), 399);
                boolean known = is(kitchens, k) && in(emptied(k), l[1], now) && in(l[1], l[5], 399);
                known = known && in(0, l[2], 400) && in(0, l[3], 1000) && in(0, l[4], 1000) && loads.size() < 60;
                numbered("fetch", x.fetch(l[0], l[1], l[2], l[3], l[4], l[5]), known, loads, l);
                break;
        }
    }

    private void drive() {
        int[] row = new int[R.nextInt(5)];
        int length = 0;
        int[] at = {0, 0};
        for (int i = 0; i < row.length; i++) {
            row[i] = R.nextInt(Math.max(1, kitchens.size() + (R.nextInt(9) > 0 ? 0 : 1)));
            int[] to = is(kitchens, row[i]) ? kitchens.get(row[i]) : null;
            length = to == null || length < 0 ? -1 : length + Math.abs(to[0] - at[0]) + Math.abs(to[1] - at[1]);
            at = to == null ? at : to;
        }
        calls += 2;
        C.due("driven", Checks.driven(x, row), length < 0 ? -1 : length + at[0] + at[1]);
        tape = 0;
    }

    private int emptied(int k) {
        return last(loads, new int[] {k, 0}, k)[1];
    }

    private int missing(int[] load) {
        int[] kitchen = kitchens.get(load[0]);
        int likely = Math.min(kitchen[3], kitchen[2] * (load[1] - load[6]));
        return Math.max(0, likely - load[2] - likely / 10);
    }

    // ---- offers and thefts

    private void offersAndThefts() {
        int value = near(0, 1000);
        switch (R.nextInt(6)) {
            case 0:
            case 1:
                int[] o = {oneOf(kitchens), near(0, 200), near(0, 200)};
                boolean may = is(kitchens, o[0]) && in(0, o[1], 200) && in(0, o[2], 200);
                told("offers", x.offers(o[0], o[1], o[2]), may, offers, o);
                break;
            case 2:
                int p = near(0, 200);
                C.due("worth", x.worth(p, value), in(0, p, 200) && in(0, value, 1000) ? worth(p, value)[1] : -1000000);
                break;
            case 3:
                int what = near(0, 2);
                int best = 200;
                for (int q = 199; q >= 0; q--) {
                    best = worth(q, value)[1] >= worth(best, value)[1] ? q : best;
                }
                C.due("offer", x.offer(value, what), in(0, value, 1000) && in(0, what, 2) ? worth(best, value)[what] : -1);
                break;
            case 4:
                int[] t = {near(0, 23), near(0, 1000)};
                told("thefts", x.thefts(t[0], t[1]), in(0, t[0], 23) && in(0, t[1], 1000), thefts, t);
                break;
            default:
                int h = near(1, 12);
                int of = near(0, 1);
                C.due("lock", x.lock(h, of), in(1, h, 12) && in(0, of, 1) ? lock(h)[of] : -1);
                break;
        }
    }

    /** The offer, its worth, the kitchens that come. */
    private int[] worth(int p, int value) {
        int[] worth = {p, 0, 0};
        for (int k = 0; k < kitchens.size(); k++) {
            int[] o = last(offers, new int[] {k, 0, 0}, k);
            if (o[1] <= p && o[2] <= p) {
                worth[1] += kitchens.get(k)[2] * (value - p);
                worth[2] |= 1 << k;
            }
        }
        return worth;
    }

    private int[] lock(int h) {
        int[] best = {0, -1};
        for (int hour = 0; hour < 24; hour++) {
            int saves = 0;
            for (int at = 0; at < 24; at++) {
                boolean locked = in(hour, at, hour + h - 1) || in(hour, at + 24, hour + h - 1);
                saves += locked ? last(thefts, new int[] {at, 0}, at)[1] : 0;
            }
            best = saves > best[1] ? new int[] {hour, saves} : best;
        }
        return best;
    }

    // ---- sewers and winter

    private void sewersAndWinter() {
        switch (R.nextInt(6)) {
            case 0:
                int[] s = {near(0, 99), near(0, 99), 0};
                numbered("sewer", x.sewer(s[0], s[1]), in(0, s[0], 99) && in(0, s[1], 99) && sewers.size() < 10, sewers, s);
                break;
            case 1:
                int i = oneOf(sewers);
                C.due("blocked", x.blocked(i), is(sewers, i) ? ++sewers.get(i)[2] : -1);
                break;
            case 2:
                int way = near(0, 198);
                int often = R.nextInt(9) > 0 ? near(1, 4) : near(1, 1000);
                C.due("beside", x.beside(way, often), in(0, way, 198) && in(1, often, 1000) ? beside(way, often) : -1);
                break;
            case 3:
                int[] d = {R.nextInt(3) > 0 ? from(Math.max(0, now - 5), Math.min(399, now + 5)) : near(0, 399), near(-40, 40)};
                told("degrees", x.degrees(d[0], d[1]), in(0, d[0], 399) && in(-40, d[1], 40), degrees, d);
                break;
            case 4:
                int k = oneOf(kitchens);
                int below = near(-40, 41);
                int late = is(kitchens, k) && in(-40, below, 41) ? 0 : -1;
                for (int[] load : loads) {
                    late += late >= 0 && load[0] == k && degrees(load[1]) < below ? 1 : 0;
                }
                C.due("late", x.late(k, below), late);
                break;
            default:
                int from = R.nextInt(3) > 0 ? now : near(0, 399);
                int under = R.nextInt(3) > 0 ? near(14, 16) : near(-40, 41);
                int first = in(0, from, 399) && in(-40, under, 41) ? -2 : -1;
                for (int day = 399; first != -1 && day >= from; day--) {
                    first = degrees(day) >= under ? day : first;
                }
                C.due("first " + from + " " + under, x.first(from, under), first);
                break;
        }
    }

    private int degrees(int day) {
        return last(degrees, new int[] {day, 15}, day)[1];
    }

    private int beside(int way, int often) {
        int set = 0;
        for (int k = 0; k < kitchens.size(); k++) {
            int[] at = kitchens.get(k);
            for (int[] s : sewers) {
                boolean near = Math.abs(at[0] - s[0]) + Math.abs(at[1] - s[1]) <= way;
                set |= at[2] == 0 && near && s[2] >= often ? 1 << k : 0;
            }
        }
        return set;
    }

    // ---- drums

    private void drums() {
        int i = near(0, Math.max(0, drums - 1));
        switch (R.nextInt(6)) {
            case 0:
                C.due("drum", x.drum(), drums < 20 ? drums : -1);
                drums += drums < 20 ? 1 : 0;
                break;
            case 1:
                int day = R.nextInt(3) > 0 ? Math.min(399, now + from(-3, 9)) : near(0, 399);
                C.due("stood", x.stood(i, day), in(0, i, drums - 1) && in(0, day, 399) ? stood(i, day)[1] : -1);
                break;
            case 2:
                int days = R.nextInt(3) > 0 ? near(0, 20) : near(0, 399);
                int set = in(0, days, 399) ? 0 : -1;
                for (int drum = 0; set != -1 && drum < drums; drum++) {
                    int[] move = stood(drum, now);
                    set |= move[1] >= 0 && now - move[2] >= days ? 1 << drum : 0;
                }
                C.due("stale " + days, x.stale(days), set);
                break;
            default:
                int latest = last(moves, new int[] {i, -2, 0}, i)[2];
                int[] m = {i, R.nextInt(3) > 0 ? oneOf(kitchens) : -1, near(Math.max(latest, now - 3), Math.max(latest, now))};
                boolean may = in(0, i, drums - 1) && (m[1] == -1 || is(kitchens, m[1])) && in(latest, m[2], now);
                told("moves", x.moves(m[0], m[1], m[2]), may && moves.size() < 60, moves, m);
                break;
        }
    }

    /** The move by which a drum stood, the depot as -2. */
    private int[] stood(int drum, int day) {
        int[] found = {drum, -2, 0};
        for (int[] move : moves) {
            found = move[0] == drum && move[2] <= day ? move.clone() : found;
        }
        found[1] = found[1] == -1 ? -2 : found[1];
        return found;
    }

    // ---- batches and who has them

    private boolean batched(int load) {
        boolean batched = false;
        for (int[] batch : batches) {
            batched = batched || (batch[0] >> load & 1) != 0;
        }
        return batched;
    }

    private int litres(int b) {
        int sum = 0;
        for (int i = 0; i < 20; i++) {
            sum += (batches.get(b)[0] >> i & 1) != 0 ? loads.get(i)[2] : 0;
        }
        return sum;
    }

    private void tellOfBatches() {
        if (R.nextInt(3) == 0) {
            int set = 0;
            for (int n = R.nextInt(3); n >= 0; n--) {
                set |= 1 << R.nextInt(Math.max(1, Math.min(20, loads.size() + 1)));
            }
            set = R.nextInt(12) > 0 ? set : near(1, 1048575);
            boolean may = batches.size() < 10 && in(1, set, 1048575);
            for (int i = 0; i < 20; i++) {
                may = may && ((set >> i & 1) == 0 || is(loads, i) && !batched(i) && loads.get(i)[5] <= now);
            }
            numbered("batch", x.batch(set), may, batches, set, now);
        } else {
            int b = oneOf(batches);
            int all = is(batches, b) ? litres(b) : 1;
            int[] p = {b, R.nextInt(3) == 0 ? near(0, Math.max(0, all - 1)) : near(0, all / 3), near(0, all), near(0, 9), now};
            boolean may = is(batches, b) && in(0, p[1], p[2] - 1) && p[2] <= all && in(0, p[3], 9) && proofs.size() < 40;
            numbered("proof", x.proof(p[0], p[1], p[2], p[3]), may, proofs, p);
        }
    }

    private void taxes() {
        int week = R.nextInt(2) == 0 ? now / 7 : near(0, 57);
        int buyer = near(0, 9);
        switch (R.nextInt(6)) {
            case 0:
                int use = near(0, 3);
                told("use", x.use(buyer, use), in(0, buyer, 9) && in(0, use, 3), uses, buyer, use);
                break;
            case 1:
            case 2:
                int[] r = {near(0, 3), week, near(0, 1000)};
                boolean may = in(0, r[0], 3) && in(0, week, 57) && in(0, r[2], 1000);
                told("rate", x.rate(r[0], r[1], r[2]), may, rates, r);
                break;
            case 3:
                int most = R.nextInt(2) == 0 ? near(0, 500) : near(0, 100000);
                told("most", x.most(buyer, most), in(0, buyer, 9) && in(0, most, 100000), mosts, buyer, most);
                break;
            case 4:
                int p = oneOf(proofs);
                C.due("tax " + p, x.tax(p), is(proofs, p) ? tax(proofs.get(p)) : -1);
                break;
            default:
                C.due("overdrawn " + week, x.overdrawn(week), in(0, week, 57) ? overdrawn(week) : -1);
                break;
        }
    }

    private int tax(int[] proof) {
        int use = last(uses, new int[] {proof[3], 0}, proof[3])[1];
        int rate = last(rates, new int[] {use, proof[4] / 7, 0}, use, proof[4] / 7)[2];
        return (proof[2] - proof[1]) * rate / 100;
    }

    private int overdrawn(int week) {
        int set = 0;
        for (int buyer = 0; buyer < 10; buyer++) {
            int sum = 0;
            for (int[] proof : proofs) {
                sum += proof[3] == buyer && proof[4] / 7 == week ? proof[2] - proof[1] : 0;
            }
            set |= sum > last(mosts, new int[] {buyer, 0}, buyer)[1] ? 1 << buyer : 0;
        }
        return set;
    }

    // ---- samples, checks, counts

    private void samplesAndChecks() {
        int b = oneOf(batches);
        int w = R.nextInt(2) == 0 ? near(100, 140) : near(0, 1000);
        switch (R.nextInt(4)) {
            case 0:
            case 1:
                int there = of(b).size();
                boolean may = is(batches, b) && in(0, w, 1000) && there < 12;
                C.due("sample", x.sample(b, w), may ? there + 1 : -1);
                if (may) {
                    samples.add(new int[] {b, w});
                }
                break;
            case 2:
                int e = R.nextInt(2) == 0 ? near(0, 20) : near(0, 1000);
                C.due("claim", x.claim(b, w, e), is(batches, b) && in(0, w, 1000) && in(0, e, 1000) ? claim(b, w - e) : -1);
                break;
            default:
                check(oneOf(kitchens));
                break;
        }
    }

    private List<int[]> of(int b) {
        List<int[]> of = new ArrayList<>();
        for (int[] sample : samples) {
            if (sample[0] == b) {
                of.add(sample);
            }
        }
        return of;
    }

    private int claim(int b, int least) {
        int more = 0;
        for (int[] sample : of(b)) {
            more += sample[1] >= least ? 1 : 0;
        }
        int all = of(b).size();
        return 2 * more > all ? 1 : 2 * (all - more) > all ? 0 : 2;
    }

    private void check(int k) {
        List<Integer> right = new ArrayList<>();
        for (int i = 0; i < loads.size(); i++) {
            int[] load = loads.get(i);
            if (load[0] == k) {
                right.addAll(List.of(i, load[1], load[2], missing(load)));
            }
        }
        int n = Math.max(0, Math.min(10, right.size() / 4 + (R.nextInt(3) > 0 ? 0 : from(-1, 1))));
        int[] numbers = new int[4 * n];
        for (int i = 0; i < numbers.length; i++) {
            numbers[i] = i < right.size() ? right.get(i) : R.nextInt(3) - 1;
        }
        if (n > 0 && R.nextInt(3) == 0) {
            numbers[R.nextInt(numbers.length)] += R.nextBoolean() ? 1 : -1 << R.nextInt(32);
        }
        int due = numbers.length < right.size() ? numbers.length : -1;
        for (int i = numbers.length - 1; i >= 0; i--) {
            due = i >= right.size() ? right.size() : numbers[i] != right.get(i) ? i : due;
        }
        calls += 3 + (numbers.length + 4) / 5;
        Checks.feedNumbers(x, numbers);
        tape += (numbers.length + 4) / 5 * 20;
        C.due("tape", x.count(3), tape);
        boolean is = is(kitchens, k);
        C.due("check " + k, x.check(k, n), is ? due : -2);
        if (!is) {
            C.due("driven", x.driven(0), 0);
        }
        tape = 0;
    }

    private int count(int what) {
        if (what < 10) {
            int[] counts = {now, kitchens.size(), loads.size(), tape, 0, batches.size(), proofs.size(), sewers.size(), 0, drums};
            return what < 0 ? -1 : counts[what];
        }
        int i = what % 10;
        if (what < 40) {
            int street = last(streets, new int[] {i, 0}, i)[1];
            return is(kitchens, i) ? new int[] {0, emptied(i), street}[what / 10 - 1] : -1;
        }
        if (what < 50) {
            return is(batches, i) ? batches.get(i)[1] : -1;
        }
        return is(proofs, what - 50) ? proofs.get(what - 50)[4] : -1;
    }
}
