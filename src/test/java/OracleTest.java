import java.math.BigInteger;
import java.util.ArrayList;
import java.util.List;
import java.util.Random;

/**
 * Many made-up firms, each told to the class and to a plain model of the test's own, whose answers must be alike.
 * Answers are promised for 512 calls of an object: where more is asked, a new one is told all that the old one was.
 */
public final class OracleTest {
    private static final Checks C = new Checks("OracleTest");
    private static final Random R = new Random(20261118);
    private static final int PROMISED = 512;

    private interface Call {
        long to(OilHome x);
    }

    private OilHome firm = new OilHome();
    private int calls;
    private int callsToTell;
    private final List<Call> told = new ArrayList<>();
    private int now;
    private int kitchens;
    private final int[][] kitchen = new int[10][4];
    private final int[] street = new int[10];
    private final String[] contract = new String[10];
    private String law = "";
    private int loads;
    /** Of each load: kitchen, day, litres, water, acid, told, the day emptied ahead. */
    private final int[][] load = new int[60][7];
    private final int[] emptied = new int[10];
    private final int[] price = new int[58];
    private final int[] feast = new int[400];
    private final int[] stock = new int[400];
    private int spills;
    private int batches;
    private final int[] batch = new int[10];
    private int proofs;
    private final int[][] proof = new int[40][4];
    private int lorries;
    private final int[] takes = new int[3];
    private final boolean[][] off = new boolean[3][400];

    public static void main(String[] args) {
        texts();
        for (int i = 0; i < 150; i++) {
            new OracleTest().run();
        }
        C.end();
    }

    private static int upTo(int most) {
        return R.nextInt(most + 1);
    }

    /** The firm, with a call left for which an answer is promised. */
    private OilHome x() {
        makeRoom(1);
        return firm;
    }

    private void makeRoom(int more) {
        if (calls + more > PROMISED) {
            firm = new OilHome();
            for (Call call : told) {
                call.to(firm);
            }
            calls = callsToTell;
        }
        calls += more;
    }

    /** What is told stays told: each later object hears it, too. */
    private long tell(int more, Call call) {
        makeRoom(more);
        told.add(call);
        callsToTell += more;
        return call.to(firm);
    }

    /** A text is fed by twenty bytes, behind a look at the tape, ahead of its own call. */
    private static int callsOf(String text) {
        return 2 + (text.length() + 19) / 20;
    }

    private static <T> T one(T[] of) {
        return of[R.nextInt(of.length)];
    }

    // ---- texts

    private static String factor(int depth) {
        if (depth < 5 && R.nextInt(5) == 0) {
            return "[" + sum(depth + 1) + "]";
        }
        return R.nextInt(3) == 0 ? "" + upTo(one(new Integer[] {2, 20, 999999}))
                : "" + "qfadwgkmson".charAt(R.nextInt(11));
    }

    private static String sum(int depth) {
        StringBuilder text = new StringBuilder(factor(depth));
        while (R.nextInt(5) < 2) {
            text.append(one(new String[] {"+", "-", "*", "/", "%"})).append(factor(depth));
        }
        return text.toString();
    }

    private static String piece(int depth) {
        int kind = depth < 5 ? R.nextInt(6) : 5;
        return kind == 0 ? "!" + piece(depth + 1) : kind == 1 ? "(" + condition(depth + 1) + ")"
                : sum(depth) + one(new String[] {"<", ">", "="}) + sum(depth);
    }

    private static String condition(int depth) {
        StringBuilder text = new StringBuilder(piece(depth));
        while (R.nextInt(5) < 2) {
            text.append(one(new String[] {"&", "|"})).append(piece(depth));
        }
        return text.toString();
    }

    private static String text(char lead, int most) {
        while (true) {
            StringBuilder text = new StringBuilder();
            for (int n = R.nextInt(most); n >= 0; n--) {
                text.append(lead).append(lead == 'p' ? sum(0) : "").append('(').append(condition(1)).append(')');
                text.append(n > 0 ? ";" : "");
            }
            if (text.length() <= 160) {
                return text.toString();
            }
        }
    }

    private static String spoiled(String text) {
        StringBuilder spoiled = new StringBuilder(text);
        for (int n = R.nextInt(3); n >= 0 && spoiled.length() > 1; n--) {
            int at = R.nextInt(spoiled.length());
            String sign = one("([!)]&|<>=+-*/%;pl0123456789qfxn ".split(""));
            int kind = R.nextInt(4);
            if (kind == 0) {
                spoiled.deleteCharAt(at);
            } else if (kind == 1) {
                spoiled.setCharAt(at, sign.charAt(0));
            } else {
                spoiled.insert(at, Checks.times(sign, kind == 2 ? 1 : 7));
            }
        }
        return spoiled.length() > 160 ? spoiled.substring(0, 160) : spoiled.toString();
    }

    private static void texts() {
        OilHome x = Firms.kitchens(1);
        int faults = 0;
        for (int i = 0; i < 20000; i++) {
            // No text takes more than ten calls.
            x = i % 50 == 0 ? Firms.kitchens(1) : x;
            char lead = i % 2 == 0 ? 'p' : 'l';
            String text = text(lead, 5);
            if (i % 4 < 3) {
                text = spoiled(text);
            }
            int due = NaiveText.read(text, lead);
            faults += due < 0 ? 1 : 0;
            C.due("text " + text, lead == 'p' ? Checks.contract(x, 0, text) : Checks.law(x, text), due);
        }
        C.due("some are faults, some are not", faults > 5000 && faults < 15000 ? 1 : 0, 1);
    }

    // ---- a firm

    private void run() {
        for (int step = 0; step < 130; step++) {
            tellOne();
        }
        C.due("what is told leaves calls to ask", callsToTell < PROMISED - 50 ? 1 : 0, 1);
        for (int i = 0; i < loads; i++) {
            C.due("missing", x().missing(i), missing(i));
            C.due("pence", x().pence(i), pence(i, load[i][0]));
            C.due("feasted", x().feasted(i, 0), feasted(i));
            C.due("short", x().feasted(i, 1), Math.max(0, feasted(i) - load[i][2] - feasted(i) / 10));
        }
        askPaid();
        askLuck();
        for (int i = 0; i < 6; i++) {
            askRounds();
        }
        C.due("blend", x().blend(), blend());
        askBatches();
        int sum = 0;
        for (int day = 0; day < 400; day++) {
            sum += stock[day];
            C.due("stock", x().stock(day), sum);
        }
        int litres = upTo(2000) - 1000;
        C.due("below", x().below(litres), below(litres));
    }

    private void tellOne() {
        switch (R.nextInt(16)) {
            case 0:
                int day = now + upTo(8);
                C.due("now", tell(1, f -> Checks.of(f.now(day))), day < 400 ? 1 : 0);
                now = day < 400 ? day : now;
                C.due("now", x().count(0), now);
                break;
            case 1:
                tellKitchen();
                break;
            case 2:
                tellTexts();
                break;
            case 3:
                int week = upTo(57);
                int pence = upTo(1000);
                price[week] = pence;
                C.due("price", tell(1, f -> Checks.of(f.price(week, pence))), 1);
                break;
            case 4:
                int feastDay = upTo(Math.min(399, now + 10));
                int more = upTo(300);
                feast[feastDay] = more;
                C.due("feast", tell(1, f -> Checks.of(f.feast(feastDay, more))), 1);
                break;
            case 5:
                tellBatch();
                break;
            case 6:
                tellProof();
                break;
            case 7:
                tellLorry();
                break;
            case 8:
                int spillDay = upTo(now);
                int spilled = 1 + upTo(50);
                int due = spills < 40 ? spills + 1 : -1;
                C.due("spill", tell(1, f -> f.spill(spillDay, spilled)), due);
                spills += due > 0 ? 1 : 0;
                stock[spillDay] -= due > 0 ? spilled : 0;
                break;
            default:
                tellFetch();
                break;
        }
    }

    private void tellKitchen() {
        int[] of = {upTo(30), upTo(30), upTo(50), 20 + upTo(380)};
        int due = kitchens < 10 ? kitchens : -1;
        C.due("kitchen", tell(1, f -> f.kitchen(of[0], of[1], of[2], of[3])), due);
        if (due >= 0) {
            kitchen[kitchens] = of;
            contract[kitchens] = "";
            kitchens++;
        }
        if (kitchens > 0) {
            int k = R.nextInt(kitchens);
            int s = upTo(3);
            street[k] = s;
            C.due("street", tell(1, f -> Checks.of(f.street(k, s))), 1);
        }
    }

    private void tellTexts() {
        String text = text('p', 4);
        int k = R.nextInt(10);
        int due = k < kitchens ? text.split(";").length : -1;
        C.due("contract", tell(callsOf(text), f -> Checks.contract(f, k, text)), due);
        if (due >= 0) {
            contract[k] = text;
        }
        C.due("driven", tell(1, f -> f.driven(0)), 0);
        String told = R.nextInt(3) == 0 ? text('l', 2) : "l(q>" + upTo(20) + ");l(f<" + upTo(1000) + "|n>" + upTo(3) + ")";
        law = told;
        C.due("law", tell(callsOf(told), f -> Checks.law(f, told)), told.split(";").length);
    }

    private void tellFetch() {
        if (kitchens == 0) {
            return;
        }
        int k = R.nextInt(kitchens);
        int day = Math.min(now, emptied[k] + upTo(12));
        int[] of = {k, day, upTo(3) == 0 ? 0 : upTo(120), upTo(1000), upTo(1000), Math.min(399, day + upTo(6)), emptied[k]};
        int due = loads < 60 ? loads : -1;
        C.due("fetch", tell(1, f -> f.fetch(k, day, of[2], of[3], of[4], of[5])), due);
        if (due >= 0) {
            load[loads] = of;
            emptied[k] = day;
            stock[day] += of[2];
            loads++;
        }
    }

    private void tellBatch() {
        int set = 0;
        for (int n = upTo(2); n >= 0; n--) {
            set |= 1 << R.nextInt(20);
        }
        int due = batches < 10 ? batches : -1;
        for (int i = 0; i < 20; i++) {
            if ((set >> i & 1) != 0 && !free(i)) {
                due = -1;
            }
        }
        int broken = due < 0 ? -1 : broken(set);
        due = broken < 0 ? due : -10 - broken;
        int of = set;
        C.due("batch", tell(1, f -> f.batch(of)), due);
        if (due >= 0) {
            batch[batches] = set;
            stock[now] -= litres(set);
            batches++;
        }
    }

    private void tellProof() {
        if (batches == 0) {
            return;
        }
        int b = R.nextInt(batches);
        int from = upTo(100);
        int to = from + upTo(60);
        int buyer = upTo(3);
        int due = from < to && to <= litres(batch[b]) && proofs < 40 ? proofs : -1;
        C.due("proof", tell(1, f -> f.proof(b, from, to, buyer)), due);
        if (due >= 0) {
            proof[proofs] = new int[] {b, from, to, buyer};
            proofs++;
        }
    }

    private void tellLorry() {
        int litres = 20 + upTo(600);
        int due = lorries < 3 ? lorries : -1;
        C.due("lorry", tell(1, f -> f.lorry(litres)), due);
        if (due >= 0) {
            takes[lorries] = litres;
            lorries++;
        }
        int l = R.nextInt(lorries);
        int day = Math.min(399, now + upTo(20));
        boolean is = R.nextBoolean();
        C.due("off", tell(1, f -> Checks.of(f.off(l, day, is))), off[l][day] == is ? 0 : 1);
        off[l][day] = is;
    }

    // ---- the model

    private int likely(int k, int day, int since) {
        return Math.min(kitchen[k][3], kitchen[k][2] * (day - since));
    }

    private int missing(int i) {
        int likely = likely(load[i][0], load[i][1], load[i][6]);
        return Math.max(0, likely - load[i][2] - likely / 10);
    }

    private int feasted(int i) {
        int[] of = kitchen[load[i][0]];
        int sum = 0;
        for (int day = load[i][6] + 1; day <= load[i][1]; day++) {
            sum += of[2] + of[2] * feast[day] / 100;
        }
        return Math.min(of[3], sum);
    }

    private int pence(int i, int by) {
        int ahead = 0;
        for (int j = 0; j < i; j++) {
            ahead += load[j][0] == load[i][0] ? load[j][2] : 0;
        }
        int day = load[i][1];
        int[] letters = {load[i][2], load[i][3], load[i][4], day, day / 7, day % 7, load[i][0], missing(i), ahead,
            price[day / 7], 0};
        return contract[by].isEmpty() ? 0 : NaiveText.pence(contract[by], letters);
    }

    private void askPaid() {
        for (int k = 0; k < kitchens; k++) {
            int j = R.nextInt(kitchens);
            int day = upTo(Math.min(399, now + 10));
            int paid = 0;
            int asIf = 0;
            for (int i = 0; i < loads; i++) {
                paid += load[i][0] == k && load[i][5] <= day ? pence(i, k) : 0;
                asIf += load[i][0] == k ? pence(i, j) : 0;
            }
            C.due("paid", x().paid(k, day), paid);
            C.due("asIf", x().asIf(k, j), asIf);
        }
    }

    private static BigInteger choose(int n, int k) {
        BigInteger ways = k < 0 || k > n ? BigInteger.ZERO : BigInteger.ONE;
        for (int i = 0; i < k && k <= n; i++) {
            ways = ways.multiply(BigInteger.valueOf(n - i)).divide(BigInteger.valueOf(i + 1));
        }
        return ways;
    }

    private static long[] odds(boolean[] marked, boolean[] in, int n) {
        int marks = 0;
        int group = 0;
        int both = 0;
        for (int i = 0; i < n; i++) {
            marks += marked[i] ? 1 : 0;
            group += in[i] ? 1 : 0;
            both += marked[i] && in[i] ? 1 : 0;
        }
        BigInteger above = BigInteger.ZERO;
        for (int i = both; i <= n; i++) {
            above = above.add(choose(marks, i).multiply(choose(n - marks, group - i)));
        }
        BigInteger below = choose(n, group);
        BigInteger common = above.gcd(below);
        return new long[] {above.divide(common).longValueExact(), below.divide(common).longValueExact(), both};
    }

    private void askLuck() {
        boolean[] missing = new boolean[60];
        boolean[] wet = new boolean[60];
        int water = upTo(1000);
        for (int i = 0; i < loads; i++) {
            missing[i] = missing(i) > 0;
            wet[i] = load[i][3] >= water;
        }
        for (int g = 0; g < 7; g++) {
            boolean[] in = new boolean[60];
            boolean[] near = new boolean[60];
            boolean[] own = new boolean[60];
            for (int i = 0; i < loads; i++) {
                in[i] = load[i][1] % 7 == g;
                near[i] = street[load[i][0]] == g;
                own[i] = load[i][0] == g;
            }
            for (int what = 0; what < 3; what++) {
                C.due("beyond", x().beyond(g, what), odds(missing, in, loads)[what]);
                C.due("streets", x().streets(g, what), odds(missing, near, loads)[what]);
                C.due("cheat", x().cheat(g, water, what), g < kitchens ? odds(wet, own, loads)[what] : -1);
            }
        }
    }

    private int way(int a, int b) {
        int ax = a < 0 ? 0 : kitchen[a][0];
        int ay = a < 0 ? 0 : kitchen[a][1];
        int bx = b < 0 ? 0 : kitchen[b][0];
        int by = b < 0 ? 0 : kitchen[b][1];
        return Math.abs(ax - bx) + Math.abs(ay - by);
    }

    private int bestLength;
    private int[] bestRow;

    /** All rows, the least first; a later one of like length does not take its place. */
    private void rows(int[] stops, int n, int[] row, int length) {
        if (n == stops.length) {
            int whole = length + (n == 0 ? 0 : way(row[n - 1], -1));
            if (bestRow == null || whole < bestLength) {
                bestLength = whole;
                bestRow = row.clone();
            }
            return;
        }
        for (int stop : stops) {
            boolean gone = false;
            for (int i = 0; i < n; i++) {
                gone = gone || row[i] == stop;
            }
            if (!gone) {
                row[n] = stop;
                rows(stops, n + 1, row, length + way(n == 0 ? -1 : row[n - 1], stop));
            }
        }
    }

    private int bestOf(int[] stops) {
        bestRow = null;
        rows(stops, 0, new int[stops.length], 0);
        return bestLength;
    }

    private int[] stops(int day, int litres, int[] since) {
        int[] stops = new int[10];
        int n = 0;
        for (int k = 0; k < kitchens; k++) {
            if (likely(k, day, since[k]) >= litres) {
                stops[n++] = k;
            }
        }
        return java.util.Arrays.copyOf(stops, n);
    }

    private boolean isBehind(int day) {
        boolean behind = false;
        for (int k = 0; k < kitchens; k++) {
            behind = behind || emptied[k] > day;
        }
        return behind;
    }

    private void askRounds() {
        int day = Math.min(399, Math.max(0, now - 5 + upTo(15)));
        int litres = 1 + upTo(300);
        int[] stops = stops(day, litres, emptied);
        boolean behind = isBehind(day);
        if (behind || stops.length > 8) {
            C.due("round", x().round(day, litres, -1), -2);
        } else {
            C.due("round", x().round(day, litres, -1), bestOf(stops));
            for (int i = 0; i < stops.length; i++) {
                C.due("round " + i, x().round(day, litres, i), bestRow[i]);
            }
        }
        askShared(day, litres, behind || stops.length > 6, stops);
        askNights(day, litres, behind);
    }

    private void askShared(int day, int litres, boolean refused, int[] stops) {
        int[] best = null;
        int least = 0;
        int[] row = new int[stops.length];
        for (int c = 0; !refused && c < Math.pow(lorries, stops.length); c++) {
            int rest = c;
            for (int i = stops.length - 1; i >= 0; i--) {
                row[i] = rest % lorries;
                rest /= lorries;
            }
            int length = sharedLength(day, stops, row);
            if (length >= 0 && (best == null || length < least)) {
                least = length;
                best = row.clone();
            }
        }
        C.due("shared", x().shared(day, litres, -1), best == null ? -2 : least);
        int[] lorryOf = new int[kitchens];
        java.util.Arrays.fill(lorryOf, best == null ? -2 : -1);
        for (int i = 0; best != null && i < stops.length; i++) {
            lorryOf[stops[i]] = best[i];
        }
        for (int k = -3; k < 12; k++) {
            int due = k >= 0 && k < kitchens ? lorryOf[k] : -1;
            C.due("shared of " + k, k == -1 ? -1 : x().shared(day, litres, k), due);
        }
    }

    private int sharedLength(int day, int[] stops, int[] row) {
        int length = 0;
        for (int l = 0; l < lorries; l++) {
            int[] own = new int[stops.length];
            int n = 0;
            int fill = 0;
            for (int i = 0; i < stops.length; i++) {
                if (row[i] == l) {
                    own[n++] = stops[i];
                    fill += likely(stops[i], day, emptied[stops[i]]);
                }
            }
            if (n > 0 && (off[l][day] || fill > takes[l])) {
                return -1;
            }
            length += bestOf(java.util.Arrays.copyOf(own, n));
        }
        return length;
    }

    private void askNights(int day, int litres, boolean behind) {
        int n = 1 + upTo(6);
        int[] due = new int[3];
        int[] since = emptied.clone();
        boolean cannot = behind;
        for (int night = day; night < day + n && night < 400 && !cannot; night++) {
            int[] stops = stops(night, litres, since);
            if (stops.length > 6) {
                // The rows of so many are too many to be tried each night.
                return;
            }
            due[0] += bestOf(stops);
            due[2] += stops.length;
            for (int k : stops) {
                due[1] += likely(k, night, since[k]);
                since[k] = night;
            }
        }
        for (int what = 0; what < 3; what++) {
            C.due("nights", x().nights(day, n, litres, what), day + n > 400 ? -1 : cannot ? -2 : due[what]);
        }
    }

    private boolean free(int i) {
        boolean free = i < loads && load[i][5] <= now;
        for (int b = 0; b < batches; b++) {
            free = free && (batch[b] >> i & 1) == 0;
        }
        return free;
    }

    private int litres(int set) {
        return together(set, 0);
    }

    /** Litres of a set, or litres times water or acid, together. */
    private int together(int set, int by) {
        int sum = 0;
        for (int i = 0; i < 20; i++) {
            sum += (set >> i & 1) == 0 ? 0 : load[i][2] * (by == 0 ? 1 : load[i][by]);
        }
        return sum;
    }

    private int mixed(int set, int by) {
        return litres(set) == 0 ? 0 : together(set, by) / litres(set);
    }

    private int broken(int set) {
        int[] letters = {litres(set), mixed(set, 3), mixed(set, 4), now, now / 7, now % 7, 0, 0, 0, price[now / 7],
            Integer.bitCount(set)};
        return NaiveText.broken(law, letters);
    }

    private int blend() {
        int allowed = 0;
        for (int i = 0; i < 20; i++) {
            allowed |= free(i) && Integer.bitCount(allowed) < 12 ? 1 << i : 0;
        }
        int best = 0;
        for (int set = allowed; set > 0; set = set - 1 & allowed) {
            if (broken(set) >= 0) {
                continue;
            }
            int more = best == 0 ? 1 : litres(set) - litres(best);
            int fewer = Integer.bitCount(best) - Integer.bitCount(set);
            if (more > 0 || more == 0 && (fewer > 0 || fewer == 0 && set < best)) {
                best = set;
            }
        }
        return best;
    }

    private void askBatches() {
        for (int b = 0; b < batches; b++) {
            C.due("litres", x().batchIs(b, 0), litres(batch[b]));
            C.due("water", x().batchIs(b, 1), mixed(batch[b], 3));
            C.due("acid", x().batchIs(b, 2), mixed(batch[b], 4));
            C.due("loads", x().batchIs(b, 4), batch[b]);
            askProofs(b);
        }
    }

    private void askProofs(int b) {
        boolean[] sold = new boolean[litres(batch[b])];
        boolean[][] by = new boolean[10][litres(batch[b])];
        int twice = -1;
        for (int p = 0; p < proofs; p++) {
            for (int l = proof[p][1]; proof[p][0] == b && l < proof[p][2]; l++) {
                twice = twice < 0 && sold[l] ? p : twice;
            }
            for (int l = proof[p][1]; proof[p][0] == b && l < proof[p][2]; l++) {
                sold[l] = true;
                by[proof[p][3]][l] = true;
            }
        }
        int[] whence = new int[litres(batch[b])];
        int l = 0;
        for (int i = 0; i < 20; i++) {
            for (int of = 0; (batch[b] >> i & 1) != 0 && of < load[i][2]; of++) {
                whence[l++] = i;
            }
        }
        C.due("twice", x().twice(b), twice);
        int free = 0;
        for (int litre = 0; litre < whence.length; litre++) {
            free += sold[litre] ? 0 : 1;
            C.due("whence", x().whence(b, litre), whence[litre]);
        }
        C.due("free", x().batchIs(b, 3), free);
        for (int buyer = 0; buyer < 10; buyer++) {
            int has = 0;
            for (boolean litre : by[buyer]) {
                has += litre ? 1 : 0;
            }
            C.due("bought", x().bought(b, buyer), has);
        }
        for (int p = 0; p < proofs; p++) {
            for (int k = 0; proof[p][0] == b && k < kitchens; k++) {
                int has = 0;
                for (int litre = proof[p][1]; litre < proof[p][2]; litre++) {
                    has += load[whence[litre]][0] == k ? 1 : 0;
                }
                C.due("audit", x().audit(p, k), has);
            }
        }
    }

    private int below(int litres) {
        int sum = 0;
        for (int day = 0; day <= now; day++) {
            sum += stock[day];
            if (sum < litres) {
                return day;
            }
        }
        return -2;
    }
}
