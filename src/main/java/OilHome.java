import java.util.ArrayList;
import java.util.Arrays;

/** The firm that fetches used oil of kitchens: one object keeps all its memory. */
public final class OilHome {
    public static final int NONE = -1;

    private static final int CANNOT = -2;
    private static final int NO_SUM = -1000000;
    private static final int DAYS = 400;
    private static final int WEEK = 7;
    private static final int WEEKS = 58;
    private static final int HOURS = 24;
    private static final int PLACES = 100;
    private static final int KITCHENS = 10;
    private static final int LOADS = 60;
    private static final int BATCHED_LOADS = 20;
    private static final int BLENDED_LOADS = 12;
    private static final int BATCHES = 10;
    private static final int PROOFS = 40;
    private static final int BUYERS = 10;
    private static final int USES = 4;
    private static final int SEWERS = 10;
    private static final int LORRIES = 3;
    private static final int DRUMS = 20;
    private static final int MOVES = 60;
    private static final int SPILLS = 40;
    private static final int STREETS = 10;
    private static final int MOST_LITRES = 400;
    private static final int MOST_PENCE = 100000;
    private static final int MOST_OFFER = 200;
    private static final int ROUND_STOPS = 8;
    private static final int SHARED_STOPS = 6;

    private int today;
    private int lorries;
    private int drums;
    private int spills;
    private Text law;
    private final Tape tape;
    private final Reader reader;
    private final int[] letters;
    private final Tables tables;
    private final Ways ways;
    private final ArrayList<Kitchen> kitchens;
    private final ArrayList<Load> loads;
    private final ArrayList<Batch> batches;
    private final ArrayList<Proof> proofs;
    private final ArrayList<Sewer> sewers;
    private final ArrayList<Move> moves;

    public OilHome() {
        law = new Text(0);
        tape = new Tape();
        reader = new Reader();
        letters = new int[Reader.LETTERS.length()];
        tables = new Tables();
        ways = new Ways();
        kitchens = new ArrayList<Kitchen>();
        loads = new ArrayList<Load>();
        batches = new ArrayList<Batch>();
        proofs = new ArrayList<Proof>();
        sewers = new ArrayList<Sewer>();
        moves = new ArrayList<Move>();
    }

    // ---- what is there

    private static boolean within(int value, int least, int most) {
        return value >= least && value <= most;
    }

    private static boolean isDay(int day) {
        return within(day, 0, DAYS - 1);
    }

    private Kitchen kitchenAt(int k) {
        return k < 0 || k >= kitchens.size() ? null : kitchens.get(k);
    }

    private Load loadAt(int i) {
        return i < 0 || i >= loads.size() ? null : loads.get(i);
    }

    private Batch batchAt(int b) {
        return b < 0 || b >= batches.size() ? null : batches.get(b);
    }

    private Proof proofAt(int p) {
        return p < 0 || p >= proofs.size() ? null : proofs.get(p);
    }

    // ---- days, kitchens and what is fetched

    public boolean now(int day) {
        if (!isDay(day) || day < today) {
            return false;
        }
        today = day;
        return true;
    }

    public int kitchen(int x, int y, int litres, int drum) {
        boolean placed = within(x, 0, PLACES - 1) && within(y, 0, PLACES - 1);
        if (!placed || !within(litres, 0, 50) || !within(drum, 20, MOST_LITRES) || kitchens.size() >= KITCHENS) {
            return NONE;
        }
        kitchens.add(new Kitchen(x, y, litres, drum));
        return kitchens.size() - 1;
    }

    public int likely(int k, int day) {
        Kitchen kitchen = kitchenAt(k);
        if (kitchen == null || !isDay(day) || day < kitchen.emptied) {
            return NONE;
        }
        return kitchen.fillOn(day, kitchen.emptied);
    }

    public int fetch(int k, int day, int litres, int water, int acid, int told) {
        Kitchen kitchen = kitchenAt(k);
        if (kitchen == null || loads.size() >= LOADS || !within(day, kitchen.emptied, today)
                || !within(told, day, DAYS - 1) || !within(litres, 0, MOST_LITRES)
                || !within(water, 0, 1000) || !within(acid, 0, 1000)) {
            return NONE;
        }
        Load load = new Load(k, day, litres, water, acid, told);
        load.since = kitchen.emptied;
        load.ahead = kitchen.fetched;
        load.lacking = load.shortOf(kitchen.fillOn(day, kitchen.emptied));
        kitchen.emptied = day;
        kitchen.fetched += litres;
        tables.change(day, litres);
        loads.add(load);
        return loads.size() - 1;
    }

    public int missing(int i) {
        Load load = loadAt(i);
        return load == null ? NONE : load.lacking;
    }

    // ---- the tape and the texts

    public int feed(int a, int b, int c, int d, int e) {
        if (tape.length() + 20 > Tape.ROOM) {
            return NONE;
        }
        tape.add(a);
        tape.add(b);
        tape.add(c);
        tape.add(d);
        tape.add(e);
        return tape.length();
    }

    private boolean isText(int n) {
        return within(n, 1, Reader.MOST_BYTES) && n <= tape.length();
    }

    public int contract(int k, int n) {
        Kitchen kitchen = kitchenAt(k);
        if (kitchen == null || !isText(n)) {
            return NONE;
        }
        Text text = reader.read(tape, n, 'p');
        tape.clear();
        if (reader.fault != 0) {
            return -reader.fault;
        }
        kitchen.contract = text;
        return text.clauses;
    }

    public int law(int n) {
        if (!isText(n)) {
            return NONE;
        }
        Text text = reader.read(tape, n, 'l');
        tape.clear();
        if (reader.fault != 0) {
            return -reader.fault;
        }
        law = text;
        return text.clauses;
    }

    // ---- prices and what is paid

    public boolean price(int week, int pence) {
        return Tables.tell(tables.prices, week, pence, 0, 1000);
    }

    private void letter(char sign, int value) {
        Tables.put(letters, Reader.LETTERS.indexOf(sign), value);
    }

    private void lettersOfDay(int day) {
        letter('d', day);
        letter('w', day / WEEK);
        letter('g', day % WEEK);
        letter('o', Tables.at(tables.prices, day / WEEK));
    }

    private void lettersOfLoad(Load load) {
        lettersOfDay(load.day);
        letter('q', load.litres);
        letter('f', load.water);
        letter('a', load.acid);
        letter('k', load.kitchen);
        letter('m', load.lacking);
        letter('s', load.ahead);
        letter('n', 0);
    }

    private int penceBy(Text text, Load load) {
        lettersOfLoad(load);
        int clause = text.firstThat(true, letters);
        return clause == NONE ? 0 : Math.max(0, Math.min(MOST_PENCE, text.sum(clause, letters)));
    }

    private int penceTogether(int k, int day, Text text) {
        int sum = 0;
        for (int i = 0; i < loads.size(); i++) {
            Load load = loads.get(i);
            if (load.kitchen == k && load.told <= day) {
                sum += penceBy(text, load);
            }
        }
        return sum;
    }

    public int pence(int i) {
        Load load = loadAt(i);
        Kitchen kitchen = load == null ? null : kitchenAt(load.kitchen);
        return load == null || kitchen == null ? NONE : penceBy(kitchen.contract, load);
    }

    public int paid(int k, int day) {
        Kitchen kitchen = kitchenAt(k);
        return kitchen == null || !isDay(day) ? NONE : penceTogether(k, day, kitchen.contract);
    }

    public int asIf(int k, int j) {
        Kitchen other = kitchenAt(j);
        return kitchenAt(k) == null || other == null ? NONE : penceTogether(k, DAYS - 1, other.contract);
    }

    // ---- more than luck

    /** No step outgrows 64 bits: the greatest, the ways of 29 of 60 times 31, is below 4 * 10^18. */
    private static long choose(int n, int k) {
        if (k < 0 || k > n) {
            return 0;
        }
        long ways = 1;
        int least = Math.min(k, n - k);
        for (int i = 0; i < least; i++) {
            ways = ways * (n - i) / (i + 1);
        }
        return ways;
    }

    /** The bound is never met: every two steps halve what is left, and no number has more than 63 bits. */
    private static long divisor(long a, long b) {
        for (int i = 0; i < 200 && b != 0; i++) {
            long rest = a % b;
            a = b;
            b = rest;
        }
        return a;
    }

    private static long odds(int marked, int group, int both, int all, int what) {
        if (what == 2) {
            return both;
        }
        long above = 0;
        for (int i = both; i <= group && i <= marked; i++) {
            above += choose(marked, i) * choose(all - marked, group - i);
        }
        long below = choose(all, group);
        long common = divisor(above, below);
        if (common == 0) {
            return NONE;
        }
        return what == 0 ? above / common : below / common;
    }

    public long beyond(int g, int what) {
        if (!within(g, 0, WEEK - 1) || !within(what, 0, 2)) {
            return NONE;
        }
        int marked = 0;
        int group = 0;
        int both = 0;
        for (int i = 0; i < loads.size(); i++) {
            Load load = loads.get(i);
            boolean in = load.day % WEEK == g;
            marked += load.lacking > 0 ? 1 : 0;
            group += in ? 1 : 0;
            both += in && load.lacking > 0 ? 1 : 0;
        }
        return odds(marked, group, both, loads.size(), what);
    }

    public boolean street(int k, int s) {
        Kitchen kitchen = kitchenAt(k);
        if (kitchen == null || !within(s, 0, STREETS - 1)) {
            return false;
        }
        kitchen.street = s;
        return true;
    }

    public long streets(int s, int what) {
        if (!within(s, 0, STREETS - 1) || !within(what, 0, 2)) {
            return NONE;
        }
        int marked = 0;
        int group = 0;
        int both = 0;
        for (int i = 0; i < loads.size(); i++) {
            Load load = loads.get(i);
            Kitchen kitchen = kitchenAt(load.kitchen);
            boolean in = kitchen != null && kitchen.street == s;
            marked += load.lacking > 0 ? 1 : 0;
            group += in ? 1 : 0;
            both += in && load.lacking > 0 ? 1 : 0;
        }
        return odds(marked, group, both, loads.size(), what);
    }

    public long cheat(int k, int water, int what) {
        if (kitchenAt(k) == null || !within(water, 0, 1000) || !within(what, 0, 2)) {
            return NONE;
        }
        int marked = 0;
        int group = 0;
        int both = 0;
        for (int i = 0; i < loads.size(); i++) {
            Load load = loads.get(i);
            boolean wet = load.water >= water;
            marked += wet ? 1 : 0;
            group += load.kitchen == k ? 1 : 0;
            both += load.kitchen == k && wet ? 1 : 0;
        }
        return odds(marked, group, both, loads.size(), what);
    }

    // ---- rounds

    /** Rounds go by the trial's days, so that nights can be driven without telling anything. */
    private boolean startTrial(int day) {
        boolean behind = false;
        for (int k = 0; k < kitchens.size(); k++) {
            Kitchen kitchen = kitchens.get(k);
            kitchen.trial = kitchen.emptied;
            behind = behind || kitchen.emptied > day;
        }
        return !behind;
    }

    private boolean gatherStops(int day, int litres, int most) {
        ways.clear();
        for (int k = 0; k < kitchens.size(); k++) {
            Kitchen kitchen = kitchens.get(k);
            int fill = kitchen.fillOn(day, kitchen.trial);
            if (fill < litres) {
                continue;
            }
            if (ways.count >= most) {
                return false;
            }
            ways.add(k, kitchen, fill);
        }
        ways.solve();
        return true;
    }

    public int round(int day, int litres, int what) {
        if (!isDay(day) || !within(litres, 1, MOST_LITRES)) {
            return NONE;
        }
        if (!startTrial(day) || !gatherStops(day, litres, ROUND_STOPS)) {
            return CANNOT;
        }
        return what == NONE ? ways.wholeLength() : ways.kitchenInRow(what);
    }

    public int driven(int n) {
        if (!within(n, 0, 20) || n > tape.length()) {
            return NONE;
        }
        int length = drivenLength(n);
        tape.clear();
        return length;
    }

    private int drivenLength(int n) {
        int length = 0;
        int x = 0;
        int y = 0;
        for (int i = 0; i < n; i++) {
            Kitchen kitchen = kitchenAt(tape.at(i));
            if (kitchen == null) {
                return NONE;
            }
            length += Ways.way(x, y, kitchen.x, kitchen.y);
            x = kitchen.x;
            y = kitchen.y;
        }
        return length + Ways.way(x, y, 0, 0);
    }

    public int nights(int day, int n, int litres, int what) {
        if (!isDay(day) || !within(n, 1, 7) || !isDay(day + n - 1) || !within(litres, 1, MOST_LITRES)
                || !within(what, 0, 2)) {
            return NONE;
        }
        if (!startTrial(day)) {
            return CANNOT;
        }
        int sum = 0;
        for (int night = day; night < day + n; night++) {
            if (!gatherStops(night, litres, ROUND_STOPS)) {
                return CANNOT;
            }
            int fetched = emptyStops(night);
            sum += what == 0 ? ways.wholeLength() : what == 1 ? fetched : ways.count;
        }
        return sum;
    }

    private int emptyStops(int night) {
        int fetched = 0;
        for (int i = 0; i < ways.count; i++) {
            Kitchen kitchen = kitchenAt(Tables.at(ways.kitchens, i));
            fetched += Tables.at(ways.fills, i);
            if (kitchen != null) {
                kitchen.trial = night;
            }
        }
        return fetched;
    }

    // ---- lorries

    public int lorry(int litres) {
        if (!within(litres, 20, 2000) || lorries >= LORRIES) {
            return NONE;
        }
        Tables.put(tables.takes, lorries, litres);
        lorries++;
        return lorries - 1;
    }

    public boolean off(int l, int day, boolean is) {
        if (!within(l, 0, lorries - 1) || !isDay(day) || isOff(l, day) == is) {
            return false;
        }
        Tables.put(tables.off, l * DAYS + day, is ? 1 : 0);
        return true;
    }

    private boolean isOff(int l, int day) {
        return Tables.at(tables.off, l * DAYS + day) != 0;
    }

    /** Only a kitchen that is there, but to which none goes, is told behind what can't be. */
    public int shared(int day, int litres, int what) {
        boolean asked = what == NONE || kitchenAt(what) != null;
        if (!isDay(day) || !within(litres, 1, MOST_LITRES) || !asked) {
            return NONE;
        }
        if (!startTrial(day) || !gatherStops(day, litres, SHARED_STOPS)) {
            return CANNOT;
        }
        int best = bestShares(day);
        if (best == NONE) {
            return CANNOT;
        }
        return what == NONE ? sharedLength(best, day) : lorryOf(best, what);
    }

    /** Shares are a number with a digit for each stop, the first stop's the highest: the first of like ones is the least row. */
    private int bestShares(int day) {
        int all = 1;
        for (int i = 0; i < ways.count; i++) {
            all *= lorries;
        }
        int best = NONE;
        int least = 0;
        for (int shares = 0; shares < all; shares++) {
            int length = sharedLength(shares, day);
            if (length != NONE && (best == NONE || length < least)) {
                best = shares;
                least = length;
            }
        }
        return best;
    }

    private int sharedLength(int shares, int day) {
        int length = 0;
        for (int l = 0; l < lorries; l++) {
            int set = stopsOf(shares, l);
            if (set != 0 && (isOff(l, day) || ways.fillOf(set) > Tables.at(tables.takes, l))) {
                return NONE;
            }
            length += ways.lengthOf(set);
        }
        return length;
    }

    private int stopsOf(int shares, int l) {
        int set = 0;
        int rest = shares;
        for (int i = ways.count - 1; i >= 0 && lorries > 0; i--) {
            set |= rest % lorries == l ? 1 << i : 0;
            rest /= lorries;
        }
        return set;
    }

    private int lorryOf(int shares, int k) {
        int rest = shares;
        for (int i = ways.count - 1; i >= 0 && lorries > 0; i--) {
            if (Tables.at(ways.kitchens, i) == k) {
                return rest % lorries;
            }
            rest /= lorries;
        }
        return NONE;
    }

    // ---- batches

    /** What is alike for all sets of loads is put once, as a blend tries some thousand of them. */
    private void lettersOfLaw() {
        lettersOfDay(today);
        letter('k', 0);
        letter('m', 0);
        letter('s', 0);
    }

    private int brokenClause(Batch batch) {
        letter('q', batch.litres);
        letter('f', batch.water());
        letter('a', batch.acid());
        letter('n', batch.loads);
        return law.firstThat(false, letters);
    }

    private boolean canBeBatched(Load load) {
        return load != null && !load.batched && load.told <= today;
    }

    /** The batch of a set of loads, null where one of them can't be in it. */
    private Batch mixed(int set) {
        Batch batch = new Batch();
        for (int i = 0; i < BATCHED_LOADS; i++) {
            if ((set >> i & 1) == 0) {
                continue;
            }
            Load load = loadAt(i);
            if (load == null || !canBeBatched(load)) {
                return null;
            }
            batch.flip(i, load);
        }
        return batch;
    }

    public int batch(int loads) {
        if (!within(loads, 1, (1 << BATCHED_LOADS) - 1) || batches.size() >= BATCHES) {
            return NONE;
        }
        Batch batch = mixed(loads);
        if (batch == null) {
            return NONE;
        }
        lettersOfLaw();
        int broken = brokenClause(batch);
        if (broken != NONE) {
            return -10 - broken;
        }
        keep(batch);
        return batches.size() - 1;
    }

    private void keep(Batch batch) {
        for (int i = 0; i < BATCHED_LOADS; i++) {
            Load load = loadAt(i);
            if (load != null && batch.has(i)) {
                load.batched = true;
            }
        }
        batch.day = today;
        tables.change(today, -batch.litres);
        batches.add(batch);
    }

    public int batchIs(int b, int what) {
        Batch batch = batchAt(b);
        if (batch == null) {
            return NONE;
        }
        switch (what) {
            case 0:
                return batch.litres;
            case 1:
                return batch.water();
            case 2:
                return batch.acid();
            case 3:
                return batch.litres - provenLitres(b, NONE);
            case 4:
                return batch.set;
            default:
                return NONE;
        }
    }

    private int gatherBlendable(int[] row) {
        int count = 0;
        for (int i = 0; i < BATCHED_LOADS && count < row.length; i++) {
            if (canBeBatched(loadAt(i))) {
                Tables.put(row, count, i);
                count++;
            }
        }
        return count;
    }

    /** Sets are tried from the least up, so the first of like ones is the least. */
    public int blend() {
        int[] row = new int[BLENDED_LOADS];
        int count = gatherBlendable(row);
        lettersOfLaw();
        Batch mix = new Batch();
        int best = 0;
        int mostLitres = 0;
        int fewestLoads = 0;
        for (int choice = 1; choice < 1 << count; choice++) {
            flipTo(mix, choice, row);
            boolean better = best == 0 || mix.litres > mostLitres
                    || mix.litres == mostLitres && mix.loads < fewestLoads;
            if (better && brokenClause(mix) == NONE) {
                best = mix.set;
                mostLitres = mix.litres;
                fewestLoads = mix.loads;
            }
        }
        return best;
    }

    /** From one choice to the next only the lowest bits change: so few loads go in and out. */
    private void flipTo(Batch mix, int choice, int[] row) {
        int changed = choice ^ choice - 1;
        for (int i = 0; i < row.length && (changed >> i & 1) != 0; i++) {
            Load load = loadAt(row[i]);
            if (load != null) {
                mix.flip(row[i], load);
            }
        }
    }

    // ---- proofs

    public int proof(int b, int from, int to, int buyer) {
        Batch batch = batchAt(b);
        if (batch == null || from < 0 || from >= to || to > batch.litres || !within(buyer, 0, BUYERS - 1)
                || proofs.size() >= PROOFS) {
            return NONE;
        }
        proofs.add(new Proof(b, from, to, buyer, today));
        return proofs.size() - 1;
    }

    private boolean sharesWithEarlier(int p, Proof proof) {
        for (int i = 0; i < p && i < proofs.size(); i++) {
            Proof earlier = proofs.get(i);
            if (earlier.batch == proof.batch && earlier.from < proof.to && proof.from < earlier.to) {
                return true;
            }
        }
        return false;
    }

    public int twice(int b) {
        for (int p = 0; p < proofs.size(); p++) {
            Proof proof = proofs.get(p);
            if (proof.batch == b && sharesWithEarlier(p, proof)) {
                return p;
            }
        }
        return NONE;
    }

    /** The proof of the batch that starts first, of what it has from a litre on; null if none has any. */
    private Proof firstProofBehind(int litre, int b, int buyer) {
        Proof first = null;
        for (int p = 0; p < proofs.size(); p++) {
            Proof proof = proofs.get(p);
            boolean asked = proof.batch == b && (buyer == NONE || proof.buyer == buyer);
            if (asked && proof.to > litre && (first == null || proof.from < first.from)) {
                first = proof;
            }
        }
        return first;
    }

    /** Each step ends behind one proof more, so there are never more steps than proofs. */
    private int provenLitres(int b, int buyer) {
        int sum = 0;
        int litre = 0;
        for (int step = 0; step < PROOFS; step++) {
            Proof proof = firstProofBehind(litre, b, buyer);
            if (proof == null) {
                break;
            }
            sum += proof.to - Math.max(proof.from, litre);
            litre = proof.to;
        }
        return sum;
    }

    public int bought(int b, int buyer) {
        return batchAt(b) == null || !within(buyer, 0, BUYERS - 1) ? NONE : provenLitres(b, buyer);
    }

    public int whence(int b, int l) {
        Batch batch = batchAt(b);
        if (batch == null || l < 0 || l >= batch.litres) {
            return NONE;
        }
        int end = 0;
        for (int i = 0; i < BATCHED_LOADS; i++) {
            Load load = loadAt(i);
            end += load != null && batch.has(i) ? load.litres : 0;
            if (l < end) {
                return i;
            }
        }
        return NONE;
    }

    public int audit(int p, int k) {
        Proof proof = proofAt(p);
        Batch batch = proof == null ? null : batchAt(proof.batch);
        if (proof == null || batch == null || kitchenAt(k) == null) {
            return NONE;
        }
        int sum = 0;
        int start = 0;
        for (int i = 0; i < BATCHED_LOADS; i++) {
            Load load = loadAt(i);
            if (load == null || !batch.has(i)) {
                continue;
            }
            int end = start + load.litres;
            int has = Math.min(end, proof.to) - Math.max(start, proof.from);
            sum += load.kitchen == k ? Math.max(0, has) : 0;
            start = end;
        }
        return sum;
    }

    public boolean use(int buyer, int use) {
        return Tables.tell(tables.uses, buyer, use, 0, USES - 1);
    }

    public boolean rate(int use, int week, int pence) {
        boolean there = within(use, 0, USES - 1) && within(week, 0, WEEKS - 1);
        return there && Tables.tell(tables.rates, use * WEEKS + week, pence, 0, 1000);
    }

    public int tax(int p) {
        Proof proof = proofAt(p);
        if (proof == null) {
            return NONE;
        }
        int use = Tables.at(tables.uses, proof.buyer);
        return proof.litres() * Tables.at(tables.rates, use * WEEKS + proof.day / WEEK) / 100;
    }

    public boolean most(int buyer, int litres) {
        return Tables.tell(tables.mosts, buyer, litres, 0, 100000);
    }

    public int overdrawn(int week) {
        if (!within(week, 0, WEEKS - 1)) {
            return NONE;
        }
        int set = 0;
        for (int buyer = 0; buyer < BUYERS; buyer++) {
            set |= boughtIn(week, buyer) > Tables.at(tables.mosts, buyer) ? 1 << buyer : 0;
        }
        return set;
    }

    private int boughtIn(int week, int buyer) {
        int sum = 0;
        for (int p = 0; p < proofs.size(); p++) {
            Proof proof = proofs.get(p);
            sum += proof.buyer == buyer && proof.day / WEEK == week ? proof.litres() : 0;
        }
        return sum;
    }

    // ---- samples

    public int sample(int b, int water) {
        Batch batch = batchAt(b);
        if (batch == null || !within(water, 0, 1000) || batch.sampled >= Batch.SAMPLES) {
            return NONE;
        }
        batch.addSample(water);
        return batch.sampled;
    }

    public int claim(int b, int w, int e) {
        Batch batch = batchAt(b);
        if (batch == null || !within(w, 0, 1000) || !within(e, 0, 1000)) {
            return NONE;
        }
        int from = batch.samplesFrom(w - e);
        int less = batch.sampled - from;
        return from > less ? 1 : less > from ? 0 : 2;
    }

    // ---- offers

    public boolean offers(int k, int least, int rival) {
        Kitchen kitchen = kitchenAt(k);
        if (kitchen == null || !within(least, 0, MOST_OFFER) || !within(rival, 0, MOST_OFFER)) {
            return false;
        }
        kitchen.least = least;
        kitchen.rival = rival;
        return true;
    }

    private int worthOf(int p, int value) {
        int sum = 0;
        for (int k = 0; k < kitchens.size(); k++) {
            Kitchen kitchen = kitchens.get(k);
            sum += kitchen.comesFor(p) ? kitchen.litres * (value - p) : 0;
        }
        return sum;
    }

    private int comers(int p) {
        int set = 0;
        for (int k = 0; k < kitchens.size(); k++) {
            set |= kitchens.get(k).comesFor(p) ? 1 << k : 0;
        }
        return set;
    }

    public int worth(int p, int value) {
        return within(p, 0, MOST_OFFER) && within(value, 0, 1000) ? worthOf(p, value) : NO_SUM;
    }

    public int offer(int value, int what) {
        if (!within(value, 0, 1000) || !within(what, 0, 2)) {
            return NONE;
        }
        int best = 0;
        int greatest = worthOf(0, value);
        for (int p = 1; p <= MOST_OFFER; p++) {
            int worth = worthOf(p, value);
            if (worth > greatest) {
                best = p;
                greatest = worth;
            }
        }
        return what == 0 ? best : what == 1 ? greatest : comers(best);
    }

    // ---- thefts

    public boolean thefts(int hour, int n) {
        return Tables.tell(tables.thefts, hour, n, 0, 1000);
    }

    private int savedFrom(int hour, int h) {
        int sum = 0;
        for (int i = 0; i < h; i++) {
            sum += Tables.at(tables.thefts, (hour + i) % HOURS);
        }
        return sum;
    }

    public int lock(int h, int what) {
        if (!within(h, 1, 12) || !within(what, 0, 1)) {
            return NONE;
        }
        int best = 0;
        int greatest = savedFrom(0, h);
        for (int hour = 1; hour < HOURS; hour++) {
            int saved = savedFrom(hour, h);
            if (saved > greatest) {
                best = hour;
                greatest = saved;
            }
        }
        return what == 0 ? best : greatest;
    }

    // ---- sewers

    public int sewer(int x, int y) {
        if (!within(x, 0, PLACES - 1) || !within(y, 0, PLACES - 1) || sewers.size() >= SEWERS) {
            return NONE;
        }
        sewers.add(new Sewer(x, y));
        return sewers.size() - 1;
    }

    public int blocked(int i) {
        if (i < 0 || i >= sewers.size()) {
            return NONE;
        }
        Sewer sewer = sewers.get(i);
        sewer.times++;
        return sewer.times;
    }

    private boolean isBeside(Kitchen kitchen, int way, int often) {
        for (int i = 0; i < sewers.size(); i++) {
            Sewer sewer = sewers.get(i);
            if (sewer.times >= often && Ways.way(kitchen.x, kitchen.y, sewer.x, sewer.y) <= way) {
                return true;
            }
        }
        return false;
    }

    public int beside(int way, int often) {
        if (!within(way, 0, 198) || !within(often, 1, 1000)) {
            return NONE;
        }
        int set = 0;
        for (int k = 0; k < kitchens.size(); k++) {
            Kitchen kitchen = kitchens.get(k);
            set |= kitchen.litres == 0 && isBeside(kitchen, way, often) ? 1 << k : 0;
        }
        return set;
    }

    // ---- winter and feasts

    public boolean degrees(int day, int n) {
        return Tables.tell(tables.degrees, day, n, -40, 40);
    }

    private boolean sets(int day, int below) {
        return Tables.at(tables.degrees, day) < below;
    }

    public int late(int k, int below) {
        if (kitchenAt(k) == null || !within(below, -40, 41)) {
            return NONE;
        }
        int count = 0;
        for (int i = 0; i < loads.size(); i++) {
            Load load = loads.get(i);
            count += load.kitchen == k && sets(load.day, below) ? 1 : 0;
        }
        return count;
    }

    public int first(int day, int below) {
        if (!isDay(day) || !within(below, -40, 41)) {
            return NONE;
        }
        for (int at = day; at < DAYS; at++) {
            if (!sets(at, below)) {
                return at;
            }
        }
        return CANNOT;
    }

    public boolean feast(int day, int more) {
        return Tables.tell(tables.feasts, day, more, 0, 300);
    }

    private int feastedFill(Load load, Kitchen kitchen) {
        int sum = 0;
        for (int day = load.since + 1; day <= load.day; day++) {
            sum += kitchen.litres * (100 + Tables.at(tables.feasts, day)) / 100;
        }
        return Math.min(sum, kitchen.drum);
    }

    public int feasted(int i, int what) {
        Load load = loadAt(i);
        Kitchen kitchen = load == null ? null : kitchenAt(load.kitchen);
        if (load == null || kitchen == null || !within(what, 0, 1)) {
            return NONE;
        }
        int fill = feastedFill(load, kitchen);
        return what == 0 ? fill : load.shortOf(fill);
    }

    // ---- drums

    public int drum() {
        if (drums >= DRUMS) {
            return NONE;
        }
        drums++;
        return drums - 1;
    }

    /** The move by which a drum stood on a day, null if there was none. */
    private Move moveBy(int i, int day) {
        Move last = null;
        for (int m = 0; m < moves.size(); m++) {
            Move move = moves.get(m);
            if (move.drum == i && move.day <= day) {
                last = move;
            }
        }
        return last;
    }

    public boolean moves(int i, int k, int day) {
        boolean there = within(i, 0, drums - 1) && (k == NONE || kitchenAt(k) != null);
        if (!there || !within(day, 0, today) || moves.size() >= MOVES) {
            return false;
        }
        Move latest = moveBy(i, DAYS - 1);
        if (latest != null && day < latest.day) {
            return false;
        }
        moves.add(new Move(i, k, day));
        return true;
    }

    public int stood(int i, int day) {
        if (!within(i, 0, drums - 1) || !isDay(day)) {
            return NONE;
        }
        Move move = moveBy(i, day);
        return move == null || move.kitchen == NONE ? CANNOT : move.kitchen;
    }

    public int stale(int days) {
        if (!within(days, 0, DAYS - 1)) {
            return NONE;
        }
        int set = 0;
        for (int i = 0; i < drums; i++) {
            Move move = moveBy(i, today);
            boolean stands = move != null && move.kitchen != NONE;
            set |= stands && today - move.day >= days ? 1 << i : 0;
        }
        return set;
    }

    // ---- stock

    public int spill(int day, int litres) {
        if (!within(day, 0, today) || !within(litres, 1, MOST_LITRES) || spills >= SPILLS) {
            return NONE;
        }
        tables.change(day, -litres);
        spills++;
        return spills;
    }

    public int stock(int day) {
        if (!isDay(day)) {
            return NO_SUM;
        }
        int sum = 0;
        for (int at = 0; at <= day; at++) {
            sum += Tables.at(tables.changes, at);
        }
        return sum;
    }

    public int below(int litres) {
        if (!within(litres, -10000, 10000)) {
            return NONE;
        }
        int sum = 0;
        for (int day = 0; day <= today; day++) {
            sum += Tables.at(tables.changes, day);
            if (sum < litres) {
                return day;
            }
        }
        return CANNOT;
    }

    // ---- checks and counts

    public int check(int k, int n) {
        if (kitchenAt(k) == null || n < 0 || n > tape.length() / 16) {
            return CANNOT;
        }
        int wrong = firstWrong(k, 4 * n);
        tape.clear();
        return wrong;
    }

    private int firstWrong(int k, int numbers) {
        int place = 0;
        for (int i = 0; i < loads.size(); i++) {
            Load load = loads.get(i);
            if (load.kitchen != k) {
                continue;
            }
            if (place >= numbers) {
                return numbers;
            }
            int wrong = wrongPart(load, i, place);
            if (wrong != NONE) {
                return place + wrong;
            }
            place += 4;
        }
        return place < numbers ? place : NONE;
    }

    private int wrongPart(Load load, int number, int place) {
        if (tape.number(place) != number) {
            return 0;
        }
        if (tape.number(place + 1) != load.day) {
            return 1;
        }
        if (tape.number(place + 2) != load.litres) {
            return 2;
        }
        return tape.number(place + 3) != load.lacking ? 3 : NONE;
    }

    public int count(int what) {
        if (within(what, 0, 9)) {
            return countOfAll(what);
        }
        if (within(what, 10, 39)) {
            return countOfKitchen(kitchenAt(what % 10), what / 10);
        }
        if (within(what, 40, 49)) {
            Batch batch = batchAt(what - 40);
            return batch == null ? NONE : batch.day;
        }
        Proof proof = what < 50 ? null : proofAt(what - 50);
        return proof == null ? NONE : proof.day;
    }

    private int countOfKitchen(Kitchen kitchen, int what) {
        if (kitchen == null) {
            return NONE;
        }
        return what == 1 ? kitchen.contract.clauses : what == 2 ? kitchen.emptied : kitchen.street;
    }

    private int countOfAll(int what) {
        switch (what) {
            case 0:
                return today;
            case 1:
                return kitchens.size();
            case 2:
                return loads.size();
            case 3:
                return tape.length();
            case 4:
                return law.clauses;
            case 5:
                return batches.size();
            case 6:
                return proofs.size();
            case 7:
                return sewers.size();
            case 8:
                return lorries;
            default:
                return drums;
        }
    }

    // ---- the classes inside

    /** What is told by numbers alone: by weeks, hours, days, buyers, uses, lorries. */
    private static final class Tables {
        final int[] prices;
        final int[] thefts;
        final int[] degrees;
        final int[] feasts;
        final int[] uses;
        final int[] mosts;
        final int[] rates;
        final int[] takes;
        final int[] off;
        final int[] changes;

        Tables() {
            prices = new int[WEEKS];
            thefts = new int[HOURS];
            degrees = new int[DAYS];
            Arrays.fill(degrees, 15);
            feasts = new int[DAYS];
            uses = new int[BUYERS];
            mosts = new int[BUYERS];
            rates = new int[USES * WEEKS];
            takes = new int[LORRIES];
            off = new int[LORRIES * DAYS];
            changes = new int[DAYS];
        }

        static int at(int[] row, int i) {
            return i < 0 || i >= row.length ? 0 : row[i];
        }

        static void put(int[] row, int i, int value) {
            if (i >= 0 && i < row.length) {
                row[i] = value;
            }
        }

        static boolean tell(int[] row, int i, int value, int least, int most) {
            if (i < 0 || i >= row.length || value < least || value > most) {
                return false;
            }
            row[i] = value;
            return true;
        }

        /** The stock is kept as what changes on each day: all that comes and goes is for one day. */
        void change(int day, int litres) {
            put(changes, day, at(changes, day) + litres);
        }
    }

    /** The bytes that were fed and not yet used. */
    private static final class Tape {
        static final int ROOM = 200;
        final int[] bytes = new int[ROOM];
        private int length;

        int length() {
            return length;
        }

        void clear() {
            length = 0;
        }

        void add(int number) {
            for (int shift = 24; shift >= 0; shift -= 8) {
                Tables.put(bytes, length, number >> shift & 255);
                length = Math.min(length + 1, ROOM);
            }
        }

        int at(int place) {
            return Tables.at(bytes, place);
        }

        int number(int place) {
            int number = 0;
            for (int i = 0; i < 4; i++) {
                number = number << 8 | at(4 * place + i);
            }
            return number;
        }
    }

    /** A text as steps of a machine with a stack: of each clause those of its E, then those of its C. */
    private static final class Text {
        static final int CLAUSES = 12;
        static final int NUMBER = 1;
        static final int LETTER = 2;
        static final int PLUS = 3;
        static final int MINUS = 4;
        static final int TIMES = 5;
        static final int THROUGH = 6;
        static final int MODULO = 7;
        static final int LESS = 8;
        static final int MORE = 9;
        static final int SAME = 10;
        static final int NOT = 11;
        static final int AND = 12;
        static final int OR = 13;
        /** A step is one int: its kind above, and below, in 20 bits, a number of six digits or a place. */
        private static final int KIND = 20;
        private static final int ARGUMENT = (1 << KIND) - 1;
        /** Six brackets in one another, each with a sum and a product that wait, need less. */
        private static final int DEPTH = 32;

        private final int[] steps;
        private final int[] sumFrom;
        private final int[] conditionFrom;
        private final int[] conditionTo;
        private final int[] stack;
        private int length;
        private int top;
        private boolean refused;
        int clauses;

        /** No byte of a text makes more than one step. */
        Text(int bytes) {
            steps = new int[Math.max(bytes, 0)];
            sumFrom = new int[CLAUSES];
            conditionFrom = new int[CLAUSES];
            conditionTo = new int[CLAUSES];
            stack = new int[DEPTH];
        }

        int add(int kind, int argument) {
            if (length >= 0 && length < steps.length) {
                steps[length] = kind << KIND | argument;
            }
            length++;
            return length - 1;
        }

        /** A jump's place is not known before what it jumps over has been read. */
        void aim(int jump) {
            Tables.put(steps, jump, Tables.at(steps, jump) & ~ARGUMENT | length);
        }

        void startSum() {
            Tables.put(sumFrom, clauses, length);
        }

        void startCondition() {
            Tables.put(conditionFrom, clauses, length);
        }

        void endClause() {
            Tables.put(conditionTo, clauses, length);
            clauses++;
        }

        /** The first clause whose C holds, or the first whose C does not. */
        int firstThat(boolean holds, int[] letters) {
            for (int clause = 0; clause < clauses; clause++) {
                int from = Tables.at(conditionFrom, clause);
                if ((run(from, Tables.at(conditionTo, clause), letters) != 0) == holds) {
                    return clause;
                }
            }
            return NONE;
        }

        int sum(int clause, int[] letters) {
            return run(Tables.at(sumFrom, clause), Tables.at(conditionFrom, clause), letters);
        }

        /** What lies on top at the end; 0 if it is refused: an E of 0, a C that does not hold. Jumps go forward alone. */
        private int run(int from, int to, int[] letters) {
            top = 0;
            refused = false;
            int jumped = from;
            for (int at = from; at < to && !refused; at++) {
                if (at < jumped) {
                    continue;
                }
                int step = Tables.at(steps, at);
                int argument = step & ARGUMENT;
                switch (step >> KIND) {
                    case NUMBER:
                        push(argument);
                        break;
                    case LETTER:
                        push(Tables.at(letters, argument));
                        break;
                    case NOT:
                        push(1 - pop());
                        break;
                    case AND:
                        jumped = decided(0) ? argument : jumped;
                        break;
                    case OR:
                        jumped = decided(1) ? argument : jumped;
                        break;
                    default:
                        int right = pop();
                        push(reckon(step >> KIND, pop(), right));
                        break;
                }
            }
            int value = pop();
            return refused ? 0 : value;
        }

        /** If the one so far decides, it stays for what comes behind the jump; else the next takes its place. */
        private boolean decided(int value) {
            int soFar = pop();
            if (soFar != value) {
                return false;
            }
            push(soFar);
            return true;
        }

        private int reckon(int kind, int left, int right) {
            switch (kind) {
                case PLUS:
                    return left + right;
                case MINUS:
                    return left - right;
                case TIMES:
                    return left * right;
                case LESS:
                    return left < right ? 1 : 0;
                case MORE:
                    return left > right ? 1 : 0;
                case SAME:
                    return left == right ? 1 : 0;
                default:
                    return divide(kind, left, right);
            }
        }

        private int divide(int kind, int left, int right) {
            if (right == 0) {
                refused = true;
                return 0;
            }
            return kind == THROUGH ? left / right : left % right;
        }

        private void push(int value) {
            if (top >= 0 && top < stack.length) {
                stack[top] = value;
                top++;
            }
        }

        private int pop() {
            if (top <= 0 || top > stack.length) {
                return 0;
            }
            top--;
            return stack[top];
        }
    }

    /** Reads texts from the left on. A fault ends the text at its place, so that nothing is read behind the first. */
    private static final class Reader {
        static final int MOST_BYTES = 160;
        static final String LETTERS = "qfadwgkmson";
        private static final int MISPLACED = 1;
        private static final int SEVENTH_DIGIT = 2;
        private static final int THIRTEENTH_CLAUSE = 4;
        private static final int SEVENTH_OPEN = 5;
        private static final int DIGITS = 6;
        private static final int OPEN = 6;
        private static final int END = -1;

        private int[] bytes;
        private Text text;
        private int lead;
        private int place;
        private int end;
        int fault;

        Reader() {
            bytes = new int[0];
            text = new Text(0);
        }

        Text read(Tape tape, int n, char letter) {
            bytes = tape.bytes;
            text = new Text(n);
            lead = letter;
            place = 0;
            end = n;
            fault = 0;
            readClause();
            while (place < end && peek() == ';') {
                place++;
                readClause();
            }
            if (place < end) {
                fail(MISPLACED);
            }
            return text;
        }

        private int peek() {
            return place >= 0 && place < end && place < bytes.length ? bytes[place] : END;
        }

        private void fail(int number) {
            if (fault == 0) {
                fault = 1000 * number + place;
                end = place;
            }
        }

        private void take(char sign) {
            if (peek() == sign) {
                place++;
            } else {
                fail(MISPLACED);
            }
        }

        private boolean opens(int open) {
            if (open >= OPEN) {
                fail(SEVENTH_OPEN);
                return false;
            }
            place++;
            return true;
        }

        private void readClause() {
            if (peek() != lead) {
                fail(MISPLACED);
                return;
            }
            if (text.clauses >= Text.CLAUSES) {
                fail(THIRTEENTH_CLAUSE);
                return;
            }
            place++;
            text.startSum();
            if (lead == 'p') {
                readSum(0);
            }
            text.startCondition();
            take('(');
            readCondition(1);
            take(')');
            text.endClause();
        }

        private void readCondition(int open) {
            readPart(open);
            while (place < end && peek() == '|') {
                place++;
                int jump = text.add(Text.OR, 0);
                readPart(open);
                text.aim(jump);
            }
        }

        private void readPart(int open) {
            readPiece(open);
            while (place < end && peek() == '&') {
                place++;
                int jump = text.add(Text.AND, 0);
                readPiece(open);
                text.aim(jump);
            }
        }

        private void readPiece(int open) {
            int sign = peek();
            if (sign == '!') {
                if (opens(open)) {
                    readPiece(open + 1);
                    text.add(Text.NOT, 0);
                }
            } else if (sign == '(') {
                if (opens(open)) {
                    readCondition(open + 1);
                    take(')');
                }
            } else {
                readSum(open);
                int kind = readRelation();
                readSum(open);
                text.add(kind, 0);
            }
        }

        private int readRelation() {
            int sign = peek();
            if (sign == '<' || sign == '>' || sign == '=') {
                place++;
            } else {
                fail(MISPLACED);
            }
            return sign == '<' ? Text.LESS : sign == '>' ? Text.MORE : Text.SAME;
        }

        private void readSum(int open) {
            readTerm(open);
            while (place < end && (peek() == '+' || peek() == '-')) {
                int kind = peek() == '+' ? Text.PLUS : Text.MINUS;
                place++;
                readTerm(open);
                text.add(kind, 0);
            }
        }

        private void readTerm(int open) {
            readFactor(open);
            while (place < end && (peek() == '*' || peek() == '/' || peek() == '%')) {
                int sign = peek();
                place++;
                readFactor(open);
                text.add(sign == '*' ? Text.TIMES : sign == '/' ? Text.THROUGH : Text.MODULO, 0);
            }
        }

        private void readFactor(int open) {
            int sign = peek();
            int letter = sign == END ? NONE : LETTERS.indexOf((char) sign);
            if (sign == '[') {
                if (opens(open)) {
                    readSum(open + 1);
                    take(']');
                }
            } else if (isDigit(sign)) {
                readNumber();
            } else if (letter >= 0) {
                place++;
                text.add(Text.LETTER, letter);
            } else {
                fail(MISPLACED);
            }
        }

        private static boolean isDigit(int sign) {
            return sign >= '0' && sign <= '9';
        }

        private void readNumber() {
            int number = 0;
            for (int digits = 0; digits < DIGITS && isDigit(peek()); digits++) {
                number = 10 * number + peek() - '0';
                place++;
            }
            if (isDigit(peek())) {
                fail(SEVENTH_DIGIT);
            }
            text.add(Text.NUMBER, number);
        }
    }

    private static final class Kitchen {
        final int x;
        final int y;
        final int litres;
        final int drum;
        int emptied;
        int trial;
        int fetched;
        int least;
        int rival;
        int street;
        Text contract;

        Kitchen(int x, int y, int litres, int drum) {
            this.x = x;
            this.y = y;
            this.litres = litres;
            this.drum = drum;
            contract = new Text(0);
        }

        int fillOn(int day, int since) {
            return Math.min(drum, litres * (day - since));
        }

        boolean comesFor(int pence) {
            return pence >= least && pence >= rival;
        }
    }

    private static final class Load {
        final int kitchen;
        final int day;
        final int litres;
        final int water;
        final int acid;
        final int told;
        int since;
        int ahead;
        int lacking;
        boolean batched;

        Load(int kitchen, int day, int litres, int water, int acid, int told) {
            this.kitchen = kitchen;
            this.day = day;
            this.litres = litres;
            this.water = water;
            this.acid = acid;
            this.told = told;
        }

        /** A tenth of what should be there is not worth a word. */
        int shortOf(int fill) {
            return Math.max(0, fill - litres - fill / 10);
        }
    }

    /** Loads together: a batch that was made, or a mix that is tried. */
    private static final class Batch {
        static final int SAMPLES = 12;
        private final int[] samples = new int[SAMPLES];
        private int waterSum;
        private int acidSum;
        int sampled;
        int set;
        int loads;
        int litres;
        int day;

        boolean has(int number) {
            return (set >> number & 1) != 0;
        }

        void flip(int number, Load load) {
            int sign = has(number) ? -1 : 1;
            set ^= 1 << number;
            loads += sign;
            litres += sign * load.litres;
            waterSum += sign * load.litres * load.water;
            acidSum += sign * load.litres * load.acid;
        }

        int water() {
            return litres == 0 ? 0 : waterSum / litres;
        }

        int acid() {
            return litres == 0 ? 0 : acidSum / litres;
        }

        void addSample(int water) {
            Tables.put(samples, sampled, water);
            sampled++;
        }

        int samplesFrom(int water) {
            int count = 0;
            for (int i = 0; i < sampled; i++) {
                count += Tables.at(samples, i) >= water ? 1 : 0;
            }
            return count;
        }
    }

    private static final class Proof {
        final int batch;
        final int from;
        final int to;
        final int buyer;
        final int day;

        Proof(int batch, int from, int to, int buyer, int day) {
            this.batch = batch;
            this.from = from;
            this.to = to;
            this.buyer = buyer;
            this.day = day;
        }

        int litres() {
            return to - from;
        }
    }

    private static final class Sewer {
        final int x;
        final int y;
        int times;

        Sewer(int x, int y) {
            this.x = x;
            this.y = y;
        }
    }

    private static final class Move {
        final int drum;
        final int kitchen;
        final int day;

        Move(int drum, int kitchen, int day) {
            this.drum = drum;
            this.kitchen = kitchen;
            this.day = day;
        }
    }

    /** Shortest ways from the depot through stops and back. Stops stand by their kitchens' numbers, sets of them are bits. */
    private static final class Ways {
        final int[] kitchens = new int[ROUND_STOPS];
        final int[] fills = new int[ROUND_STOPS];
        private final int[] xs = new int[ROUND_STOPS];
        private final int[] ys = new int[ROUND_STOPS];
        /** By a set and a stop outside it: the shortest way from that stop through the set and home. */
        private final int[] rests = new int[ROUND_STOPS << ROUND_STOPS];
        private final int[] rounds = new int[1 << ROUND_STOPS];
        int count;

        static int way(int x, int y, int toX, int toY) {
            return Math.abs(x - toX) + Math.abs(y - toY);
        }

        void clear() {
            count = 0;
        }

        void add(int number, Kitchen kitchen, int fill) {
            Tables.put(kitchens, count, number);
            Tables.put(fills, count, fill);
            Tables.put(xs, count, kitchen.x);
            Tables.put(ys, count, kitchen.y);
            count++;
        }

        /** Way between two stops; NONE is the depot. */
        private int between(int from, int to) {
            return way(Tables.at(xs, from), Tables.at(ys, from), Tables.at(xs, to), Tables.at(ys, to));
        }

        void solve() {
            for (int set = 0; set < 1 << count; set++) {
                for (int from = 0; from < count; from++) {
                    if ((set >> from & 1) == 0) {
                        Tables.put(rests, set * ROUND_STOPS + from, shortest(from, set));
                    }
                }
                Tables.put(rounds, set, shortest(NONE, set));
            }
        }

        private int through(int from, int next, int set) {
            int rest = set & ~(1 << next);
            return between(from, next) + Tables.at(rests, rest * ROUND_STOPS + next);
        }

        private int shortest(int from, int set) {
            int least = NONE;
            for (int next = 0; next < count; next++) {
                if ((set >> next & 1) != 0) {
                    int length = through(from, next, set);
                    least = least == NONE || length < least ? length : least;
                }
            }
            return least == NONE ? between(from, NONE) : least;
        }

        int lengthOf(int set) {
            return Tables.at(rounds, set);
        }

        int wholeLength() {
            return lengthOf((1 << count) - 1);
        }

        int fillOf(int set) {
            int sum = 0;
            for (int i = 0; i < count; i++) {
                sum += (set >> i & 1) != 0 ? Tables.at(fills, i) : 0;
            }
            return sum;
        }

        /** The first stop from which what is left is still shortest: so the row is the least of like ones. */
        private int nextStop(int from, int set) {
            int least = shortest(from, set);
            for (int next = 0; next < count; next++) {
                if ((set >> next & 1) != 0 && through(from, next, set) == least) {
                    return next;
                }
            }
            return NONE;
        }

        int kitchenInRow(int place) {
            if (place < 0 || place >= count) {
                return NONE;
            }
            int set = (1 << count) - 1;
            int stop = NONE;
            for (int i = 0; i <= place; i++) {
                stop = nextStop(stop, set);
                set &= stop < 0 ? 0 : ~(1 << stop);
            }
            return stop < 0 ? NONE : Tables.at(kitchens, stop);
        }
    }
}
