import java.util.function.IntToLongFunction;

/** Counts answers that are not as due, and feeds the tape with texts and numbers. */
final class Checks {
    private final String what;
    private int wrong;
    private int asked;

    Checks(String what) {
        this.what = what;
    }

    void due(String call, long got, long want) {
        asked++;
        if (got != want) {
            wrong++;
            System.out.println(what + ": " + call + " answered " + got + ", due is " + want);
        }
    }

    void yes(String call, boolean got) {
        due(call, got ? 1 : 0, 1);
    }

    void no(String call, boolean got) {
        due(call, got ? 1 : 0, 0);
    }

    static long of(boolean answer) {
        return answer ? 1 : 0;
    }

    /** The last values that are let in, on both sides, and the first that are not; far beyond them as well. */
    void bounds(String what, int least, int most, long in, long out, IntToLongFunction call) {
        due(what + " " + least, call.applyAsLong(least), in);
        due(what + " " + most, call.applyAsLong(most), in);
        for (int beyond : new int[] {least - 1, most + 1, Integer.MIN_VALUE, Integer.MAX_VALUE}) {
            due(what + " " + beyond, call.applyAsLong(beyond), out);
        }
    }

    void end() {
        System.out.println(what + ": " + asked + " answers, " + wrong + " not as due");
        if (wrong != 0) {
            System.exit(1);
        }
    }

    static int feedBytes(OilHome x, int... bytes) {
        int has = x.count(3);
        for (int at = 0; at < bytes.length; at += 20) {
            int[] five = new int[5];
            for (int i = 0; i < 20; i++) {
                int b = at + i < bytes.length ? bytes[at + i] & 255 : 0;
                five[i / 4] = five[i / 4] << 8 | b;
            }
            has = x.feed(five[0], five[1], five[2], five[3], five[4]);
        }
        return has;
    }

    static int feedText(OilHome x, String text) {
        int[] bytes = new int[text.length()];
        for (int i = 0; i < bytes.length; i++) {
            bytes[i] = text.charAt(i);
        }
        return feedBytes(x, bytes);
    }

    static int feedNumbers(OilHome x, int... numbers) {
        int has = x.count(3);
        for (int at = 0; at < numbers.length; at += 5) {
            int[] five = new int[5];
            for (int i = 0; i < 5 && at + i < numbers.length; i++) {
                five[i] = numbers[at + i];
            }
            has = x.feed(five[0], five[1], five[2], five[3], five[4]);
        }
        return has;
    }

    static int contract(OilHome x, int k, String text) {
        feedText(x, text);
        return x.contract(k, text.length());
    }

    static int law(OilHome x, String text) {
        feedText(x, text);
        return x.law(text.length());
    }

    static int driven(OilHome x, int... kitchens) {
        feedBytes(x, kitchens);
        return x.driven(kitchens.length);
    }

    static int check(OilHome x, int k, int... numbers) {
        feedNumbers(x, numbers);
        return x.check(k, numbers.length / 4);
    }

    static String times(String part, int n) {
        StringBuilder text = new StringBuilder();
        for (int i = 0; i < n; i++) {
            text.append(part);
        }
        return text.toString();
    }
}
