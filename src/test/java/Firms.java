/** Firms to ask, each as small as its question. */
final class Firms {
    private Firms() {
    }

    static OilHome on(int day) {
        OilHome x = new OilHome();
        x.now(day);
        return x;
    }

    /** So many kitchens on the way from the depot, each giving 10 litres a day into a drum of 100. */
    static OilHome kitchens(int n) {
        OilHome x = new OilHome();
        for (int k = 0; k < n; k++) {
            x.kitchen(k, 0, 10, 100);
        }
        return x;
    }

    static OilHome kitchensOn(int day, int n) {
        OilHome x = kitchens(n);
        x.now(day);
        return x;
    }

    /** One kitchen, loads of day 0 with these litres, water 10 each, acid 20 each, known at once. */
    static OilHome loads(int... litres) {
        OilHome x = kitchens(1);
        for (int l : litres) {
            x.fetch(0, 0, l, 10, 20, 0);
        }
        return x;
    }

    /** The same loads, all in batch 0. */
    static OilHome batch(int... litres) {
        OilHome x = loads(litres);
        x.batch((1 << litres.length) - 1);
        return x;
    }

    static OilHome drums(int n) {
        OilHome x = kitchens(2);
        for (int i = 0; i < n; i++) {
            x.drum();
        }
        return x;
    }

    /** A kitchen at each place, giving nothing. */
    static OilHome places(int... xy) {
        OilHome x = new OilHome();
        for (int i = 0; i + 1 < xy.length; i += 2) {
            x.kitchen(xy[i], xy[i + 1], 0, 20);
        }
        return x;
    }
}
