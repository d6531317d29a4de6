/** What the tests share: texts go to the tape in twenties, and answers that are not due are printed. */
final class Check {
    private final String test;
    private int asked;
    private int wrong;

    Check(String test) {
        this.test = test;
    }

    void due(String call, long got, long want) {
        asked++;
        if (got != want) {
            wrong++;
            if (wrong <= 40) {
                System.out.println(call + " answered " + got + ", due is " + want);
            }
        }
    }

    void holds(String what, boolean isSo) {
        due(what, isSo ? 1 : 0, 1);
    }

    void end() {
        System.out.println(test + ": " + asked + " answers, " + wrong + " not as due");
        if (wrong > 0 || asked == 0) {
            System.exit(1);
        }
    }

    /** Puts a text (characters 0 .. 255) behind the tape; the last answer. */
    static int tell(PercolateSets sets, String text) {
        int answer = sets.count(8);
        for (int from = 0; from < text.length(); from += 20) {
            int[] numbers = new int[5];
            for (int i = 0; i < 20; i++) {
                int sign = from + i < text.length() ? text.charAt(from + i) : ' ';
                numbers[i / 4] = numbers[i / 4] << 8 | sign & 255;
            }
            answer = sets.feed(numbers[0], numbers[1], numbers[2], numbers[3], numbers[4]);
            if (answer >= 0 && text.length() - from < 20) {
                answer = sets.end(text.length() - from);
            }
        }
        return answer;
    }

    static int save(PercolateSets sets, String text) {
        tell(sets, text);
        return sets.save();
    }

    static int change(PercolateSets sets, int q, String text) {
        tell(sets, text);
        return sets.change(q);
    }

    static int object(PercolateSets sets, int key, String text) {
        tell(sets, text);
        return sets.object(key);
    }

    /** All that is NEEDED by a query, in ORDER, with blanks between; ALL if it is NEEDLESS. */
    static String neededOf(PercolateSets sets, int q) {
        int many = sets.query(q, 1);
        if (many == PercolateSets.NONE) {
            return "ALL";
        }
        StringBuilder all = new StringBuilder();
        for (int k = 0; k < many; k++) {
            all.append(k == 0 ? "" : " ");
            int signs = sets.needed(q, k, -1);
            for (int i = 0; i < signs; i++) {
                all.append((char) sets.needed(q, k, i));
            }
            all.append(sets.needed(q, k, -2) == 1 ? "*" : "");
        }
        return all.toString();
    }

    /** All places of a query in an object, with blanks between. */
    static String shownOf(PercolateSets sets, int q, int key) {
        StringBuilder all = new StringBuilder();
        int many = sets.shown(q, key, -1);
        for (int k = 0; k < many; k++) {
            all.append(k == 0 ? "" : " ").append(sets.shown(q, key, k));
        }
        return all.toString();
    }

    void text(String call, String got, String want) {
        if (!got.equals(want)) {
            System.out.println(call + ": \"" + got + "\", due is \"" + want + "\"");
        }
        due(call, got.equals(want) ? 1 : 0, 1);
    }

    static String times(String text, int many) {
        return text.repeat(many);
    }
}
