/** What the tests share: texts go to the tape in twenties, and answers that are not due are printed. */
final class Check {
    private final String test;
    private int asked;
    private int wrong;

    Check(String test) {
        this.test = test;
    }

    void due(String call, long got, long want) {
        asked++;
        if (got != want) {
            wrong++;
            if (wrong <= 40) {
                System.out.println(call + " answered " + got + ", due is " + want);
            }
        }
    }

    void holds(String what, boolean isSo) {
        due(what, isSo ? 1 : 0, 1);
    }

    void end() {
        System.out.println(test + ": " + asked + " answers, " + wrong + " not as due");
        if (wrong > 0 || asked == 0) {
            System.exit(1);
        }
    }

    /** Puts a text (characters 0 .. 255) behind the tape; the last answer. */
    static int tell(PercolateSets sets, String text) {
        int answer = sets.count(8);
        for (int from = 0; from < text.length(); from += 20) {
            int[] numbers = new int[5];
            for (int i = 0; i < 20; i++) {
                int sign = from + i < text.length() ? text.charAt(from + i) : ' ';
                numbers[i / 4] = numbers[i / 4] << 8 | sign & 255;
            }
            answer = sets.feed(numbers[0], numbers[1], numbers[2], numbers[3], numbers[4]);
            if (answer >= 0 && text.length() - from < 20) {
                answer = sets.end(text.length() - from);
            }
        }
        return answer;
    }

    static int save(PercolateSets sets, String text) {
        tell(sets, text);
        return sets.save();
    }

    static int change(PercolateSets sets, int q, String text) {
        tell(sets, text);
        return sets.change(q);
    }

    static int object(PercolateSets sets, int key, String text) {
        tell(sets, text);
        return sets.object(key);
    }

    /** All that is NEEDED by a query, in ORDER, with blanks between; ALL if it is NEEDLESS. */
    static String neededOf(PercolateSets sets, int q) {
        int many = sets.query(q, 1);
        if (many == PercolateSets.NONE) {
            return "ALL";
        }
        StringBuilder all = new StringBuilder();
        for (int k = 0; k < many; k++) {
            all.append(k == 0 ? "" : " ");
            int signs = sets.needed(q, k, -1);
            for (int i = 0; i < signs; i++) {
                all.append((char) sets.needed(q, k, i));
            }
            all.append(sets.needed(q, k, -2) == 1 ? "*" : "");
        }
        return all.toString();
    }

    /** All places of a query in an object, with blanks between. */
    static String shownOf(PercolateSets sets, int q, int key) {
        StringBuilder all = new StringBuilder();
        int many = sets.shown(q, key, -1);
        for (int k = 0; k < many; k++) {
            all.append(k == 0 ? "" : " ").append(sets.shown(q, key, k));
        }
        return all.toString();
    }

    /** A QUERY without a FAULT, by save() and by change(). */
    void goodQuery(String text) {
        PercolateSets sets = new PercolateSets();
        due("save of " + text, save(sets, text), 0);
        due("place of " + text, sets.place(), PercolateSets.NONE);
        due("tape behind " + text, sets.count(8), 0);
        due("change to " + text, change(sets, 0, text), 2);
        due("place of change to " + text, sets.place(), PercolateSets.NONE);
        due("tape behind change to " + text, sets.count(8), 0);
    }

    /** A QUERY with a FAULT, by save() and by change(); all but the tape and the place stays as it was. */
    void badQuery(String text, int kind, int place) {
        PercolateSets sets = new PercolateSets();
        due("save of " + text, save(sets, text), -10 - kind);
        due("place of " + text, sets.place(), place);
        due("tape behind " + text, sets.count(8), 0);
        due("serial behind " + text, sets.count(9), 0);
        due("queries behind " + text, sets.count(0), 0);
        save(sets, "before");
        due("change to " + text, change(sets, 0, text), -10 - kind);
        due("place of change to " + text, sets.place(), place);
        due("tape behind change to " + text, sets.count(8), 0);
        text("the former one stays", neededOf(sets, 0), "before");
        due("its serial stays", sets.query(0, 0), 1);
        due("serial behind change", sets.count(9), 1);
    }

    /** An OBJECT without a FAULT. */
    void goodObject(String text, int units, int words) {
        PercolateSets sets = new PercolateSets();
        due("object of " + text, object(sets, 11, text), units);
        due("place of " + text, sets.place(), PercolateSets.NONE);
        due("tape behind " + text, sets.count(8), 0);
        due("units of " + text, sets.about(11, 1), units);
        due("words of " + text, sets.about(11, 2), words);
    }

    /** An OBJECT with a FAULT, under a free key and under one that has an OBJECT, which stays. */
    void badObject(String text, int kind, int place) {
        PercolateSets sets = new PercolateSets();
        due("object of " + text, object(sets, 0, text), -10 - kind);
        due("place of " + text, sets.place(), place);
        due("tape behind " + text, sets.count(8), 0);
        due("version behind " + text, sets.count(10), 0);
        due("objects behind " + text, sets.count(2), 0);
        object(sets, 0, "a{ b: two words; }");
        due("object instead: " + text, object(sets, 0, text), -10 - kind);
        due("its place: " + text, sets.place(), place);
        due("the former version stays", sets.about(0, 0), 1);
        due("the former units stay", sets.about(0, 1), 2);
        due("the former words stay", sets.about(0, 2), 2);
        due("version behind it", sets.count(10), 1);
    }

    void text(String call, String got, String want) {
        if (!got.equals(want)) {
            System.out.println(call + ": \"" + got + "\", due is \"" + want + "\"");
        }
        due(call, got.equals(want) ? 1 : 0, 1);
    }

    static String times(String text, int many) {
        return text.repeat(many);
    }
}
