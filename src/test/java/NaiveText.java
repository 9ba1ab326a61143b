/**
 * A second reading of the document's texts, made another way: faults by one walk over the signs with a pile of
 * what is open, worth by reckoning straight from the signs. It only knows what the document says.
 */
final class NaiveText {
    /** What is divided by 0. */
    static final class Refused extends Exception {
        private static final long serialVersionUID = 1;
    }

    private final String text;
    private final int[] letters;
    private int at;

    private NaiveText(String text, int[] letters) {
        this.text = text;
        this.letters = letters;
    }

    private static boolean isIn(char c, String signs) {
        return signs.indexOf(c) >= 0;
    }

    /** How many clauses, or the fault. */
    static int read(String text, char lead) {
        StringBuilder open = new StringBuilder();
        String expected = "lead";
        boolean inCondition = false;
        boolean right = false;
        int clauses = 0;
        int digits = 0;
        for (int i = 0; i < text.length(); i++) {
            char c = text.charAt(i);
            int misplaced = -1000 - i;
            char last = open.length() == 0 ? 0 : open.charAt(open.length() - 1);
            if (expected.equals("number")) {
                if (isIn(c, "0123456789")) {
                    if (++digits == 7) {
                        return -2000 - i;
                    }
                    continue;
                }
                expected = "after";
            }
            if (expected.equals("lead")) {
                if (c != lead) {
                    return misplaced;
                }
                if (++clauses == 13) {
                    return -4000 - i;
                }
                inCondition = false;
                expected = lead == 'p' ? "factor" : "bracket";
            } else if (expected.equals("bracket")) {
                if (c != '(') {
                    return misplaced;
                }
                open.append(c);
                inCondition = true;
                right = false;
                expected = "piece";
            } else if (expected.equals("factor") || expected.equals("piece")) {
                if (c == '[' || expected.equals("piece") && isIn(c, "!(")) {
                    if (open.length() == 6) {
                        return -5000 - i;
                    }
                    open.append(c);
                    expected = c == '[' ? "factor" : "piece";
                } else if (isIn(c, "0123456789")) {
                    digits = 1;
                    expected = "number";
                } else if (isIn(c, "qfadwgkmson")) {
                    expected = "after";
                } else {
                    return misplaced;
                }
            } else if (expected.equals("after") && isIn(c, "+-*/%")) {
                expected = "factor";
            } else if (expected.equals("after") && last == '[') {
                if (c != ']') {
                    return misplaced;
                }
                open.setLength(open.length() - 1);
            } else if (expected.equals("after") && !inCondition) {
                if (c != '(') {
                    return misplaced;
                }
                open.append(c);
                inCondition = true;
                right = false;
                expected = "piece";
            } else if (expected.equals("after") && !right) {
                if (!isIn(c, "<>=")) {
                    return misplaced;
                }
                right = true;
                expected = "factor";
            } else if (expected.equals("after") || expected.equals("ended")) {
                while (open.length() > 0 && open.charAt(open.length() - 1) == '!') {
                    open.setLength(open.length() - 1);
                }
                right = false;
                if (c == ')' && open.length() > 0) {
                    open.setLength(open.length() - 1);
                    expected = "ended";
                } else if (isIn(c, "&|") && open.length() > 0) {
                    expected = "piece";
                } else if (c == ';' && open.length() == 0) {
                    expected = "lead";
                } else {
                    return misplaced;
                }
            }
        }
        return expected.equals("ended") && open.length() == 0 ? clauses : -1000 - text.length();
    }

    static int pence(String text, int[] letters) {
        for (String clause : text.split(";")) {
            int condition = clause.indexOf('(');
            if (!holds(clause.substring(condition), letters)) {
                continue;
            }
            try {
                int sum = new NaiveText(clause.substring(1, condition), letters).sum();
                return sum < 0 ? 0 : sum > 100000 ? 100000 : sum;
            } catch (Refused refused) {
                return 0;
            }
        }
        return 0;
    }

    /** The first clause that does not hold, -1 if all do. */
    static int broken(String text, int[] letters) {
        if (text.isEmpty()) {
            return -1;
        }
        String[] clauses = text.split(";");
        for (int i = 0; i < clauses.length; i++) {
            if (!holds(clauses[i].substring(1), letters)) {
                return i;
            }
        }
        return -1;
    }

    private static boolean holds(String condition, int[] letters) {
        try {
            return new NaiveText(condition, letters).piece(true);
        } catch (Refused refused) {
            return false;
        }
    }

    private char sign() {
        return at < text.length() ? text.charAt(at) : 0;
    }

    /** Of what does not matter the signs are passed, but nothing is reckoned. */
    private boolean parts(boolean matters) throws Refused {
        boolean any = false;
        do {
            boolean all = true;
            do {
                at++;
                boolean holds = piece(matters && !any && all);
                all = all && holds;
            } while (sign() == '&');
            any = any || all;
        } while (sign() == '|');
        at++;
        return any;
    }

    private boolean piece(boolean matters) throws Refused {
        if (sign() == '!') {
            at++;
            return !piece(matters);
        }
        if (sign() == '(') {
            return parts(matters);
        }
        int from = at;
        if (!matters) {
            int depth = 0;
            for (; depth > 0 || !isIn(sign(), "&|)"); at++) {
                depth += sign() == '(' ? 1 : sign() == ')' ? -1 : 0;
            }
            return from < 0;
        }
        int left = sum();
        char relation = sign();
        at++;
        int right = sum();
        return relation == '<' ? left < right : relation == '>' ? left > right : left == right;
    }

    private int sum() throws Refused {
        int sum = term();
        while (sign() == '+' || sign() == '-') {
            int by = sign() == '+' ? 1 : -1;
            at++;
            sum += by * term();
        }
        return sum;
    }

    private int term() throws Refused {
        int product = factor();
        while (sign() != 0 && isIn(sign(), "*/%")) {
            char by = sign();
            at++;
            int factor = factor();
            if (by != '*' && factor == 0) {
                throw new Refused();
            }
            product = by == '*' ? product * factor : by == '/' ? product / factor : product % factor;
        }
        return product;
    }

    private int factor() throws Refused {
        if (sign() == '[') {
            at++;
            int sum = sum();
            at++;
            return sum;
        }
        if (sign() >= '0' && sign() <= '9') {
            int from = at;
            while (sign() >= '0' && sign() <= '9') {
                at++;
            }
            return Integer.parseInt(text.substring(from, at));
        }
        int letter = "qfadwgkmson".indexOf(sign());
        at++;
        return letters[letter];
    }
}
