/** All promises at once: long runs of mixed calls, each answer compared with that of the slow Model. */
final class ModelTest {
    private static final int RUNS = 3000;
    private static final int CALLS = 512;
    private static final String[] WORDS = {"a", "b", "c", "d", "ab", "abc", "aa", "ba", "x", "xy", "0", "7", "12", "007",
        "9999", "10000", "000000000012", "1a", "abcdefghijkl", "abcdefghijk", "red", "blue", "redder"};

    private static final Check check = new Check("ModelTest");
    private static long seed;

    private PercolateSets sets;
    private Model model;
    private int run;
    private int calls;

    public static void main(String[] args) {
        ModelTest test = new ModelTest();
        for (int run = 0; run < RUNS; run++) {
            seed = run * 7919L + 17;
            test.playRun(run);
        }
        check.end();
    }

    private static int below(int bound) {
        seed = seed * 6364136223846793005L + 1442695040888963407L;
        return (int) ((seed >>> 33) % bound);
    }

    private void playRun(int number) {
        sets = new PercolateSets();
        model = new Model();
        run = number;
        calls = 0;
        int manyKeys = 1 + below(13);
        int manyQueries = 1 + below(44);
        while (calls < CALLS) {
            play(below(manyKeys + 1) - (below(20) == 0 ? 1 : 0), below(manyQueries + 1) - (below(20) == 0 ? 1 : 0));
        }
    }

    private void due(String call, int got, int want) {
        calls++;
        check.due("run " + run + " call " + calls + ": " + call, got, want);
    }

    private void play(int key, int q) {
        switch (below(12)) {
            case 0:
            case 1:
                feed(aQuery());
                due("save", sets.save(), model.save());
                due("place", sets.place(), model.place());
                break;
            case 2:
                feed(anObject());
                due("object " + key, sets.object(key), model.object(key));
                due("place", sets.place(), model.place());
                askObject(key);
                break;
            case 3:
                if (below(2) == 0) {
                    feed(aQuery());
                    due("change " + q, sets.change(q), model.change(q));
                } else if (below(2) == 0) {
                    due("drop " + q, sets.drop(q), model.drop(q));
                } else if (below(3) == 0) {
                    due("forget " + key, sets.forget(key), model.forget(key));
                }
                due("place", sets.place(), model.place());
                break;
            case 4:
                due("batch", sets.batch(), model.batch());
                askRun();
                break;
            case 5:
                due("run " + key, sets.run(key), model.run(key));
                askRun();
                break;
            case 6:
            case 7:
                askPair(q, key);
                break;
            case 8:
                askPair(below(8), below(3));
                break;
            case 9:
                due("tried " + key, sets.tried(key), model.tried(key));
                int what = below(13) - 1;
                due("count " + what, sets.count(what), model.count(what));
                break;
            case 10:
                askQuery(q);
                break;
            default:
                askQuery(below(6));
                break;
        }
    }

    private void feed(String text) {
        for (int from = 0; from < text.length(); from += 20) {
            int[] n = new int[5];
            for (int i = 0; i < 20; i++) {
                n[i / 4] = n[i / 4] << 8 | (from + i < text.length() ? text.charAt(from + i) : ' ');
            }
            due("feed", sets.feed(n[0], n[1], n[2], n[3], n[4]), model.feed(n));
        }
        int rest = text.length() % 20;
        if (rest > 0) {
            due("end " + rest, sets.end(rest), model.end(rest));
        } else if (below(10) == 0) {
            int n = below(24) - 2;
            due("end " + n, sets.end(n), model.end(n));
        }
    }

    private void askQuery(int q) {
        for (int what = -1; what <= 4; what++) {
            due("query " + q + " " + what, sets.query(q, what), model.query(q, what));
        }
        int k = below(Math.max(1, model.query(q, 1)) + 1) - below(2);
        for (int i = -3; i <= 3; i++) {
            due("needed " + q + " " + k + " " + i, sets.needed(q, k, i), model.needed(q, k, i));
        }
        int i = below(14);
        due("needed " + q + " " + k + " " + i, sets.needed(q, k, i), model.needed(q, k, i));
    }

    private void askObject(int key) {
        int what = below(6) - 1;
        due("about " + key + " " + what, sets.about(key, what), model.about(key, what));
        int u = below(Math.max(1, model.about(key, 1)) + 2) - 1;
        for (what = -1; what <= 6; what++) {
            due("unit " + key + " " + u + " " + what, sets.unit(key, u, what), model.unit(key, u, what));
        }
    }

    private void askRun() {
        for (int what = 3; what <= 6; what++) {
            due("count " + what, sets.count(what), model.count(what));
        }
        int k = below(Math.max(1, model.count(6)) + 2) - 1;
        due("matched " + k, sets.matched(k), model.matched(k));
        k = below(Math.max(1, model.count(3)) + 2) - 1;
        int what = below(6) - 1;
        due("alert " + k + " " + what, sets.alert(k, what), model.alert(k, what));
        k = model.count(3) - 99 - below(3);
        due("alert " + k, sets.alert(k, 1), model.alert(k, 1));
    }

    private void askPair(int q, int key) {
        due("match " + q + " " + key, sets.match(q, key), model.match(q, key));
        due("candidate " + q + " " + key, sets.candidate(q, key), model.candidate(q, key));
        int many = model.shown(q, key, -1);
        due("shown " + q + " " + key, sets.shown(q, key, -1), many);
        for (int k = -2; k <= Math.min(many, 6); k++) {
            due("shown " + q + " " + key + " " + k, sets.shown(q, key, k), model.shown(q, key, k));
        }
    }

    // ---- texts

    private static String blanks() {
        return below(4) == 0 ? " ".repeat(below(3)) : "";
    }

    private static String aWord() {
        return WORDS[below(below(2) == 0 ? WORDS.length : 6)];
    }

    private static String aQuery() {
        StringBuilder text = new StringBuilder();
        int kind = below(14);
        if (kind == 0) {
            wideQuery(text);
        } else if (kind == 1) {
            deepQuery(text);
        } else {
            either(text, 1 + below(4));
        }
        return spoilt(text);
    }

    private static void wideQuery(StringBuilder text) {
        String between = "|&".substring(below(2)).substring(0, 1);
        int parts = 56 + below(7);
        for (int i = 0; i < parts; i++) {
            text.append(i == 0 ? "" : between).append(below(9) == 0 ? "a:" : "");
            text.append((char) ('a' + below(26))).append(below(3) == 0 ? "*" : "");
        }
    }

    private static void deepQuery(StringBuilder text) {
        int levels = 11 + below(4);
        StringBuilder closes = new StringBuilder();
        for (int i = 0; i < levels; i++) {
            switch (below(5)) {
                case 0:
                    text.append("(");
                    closes.insert(0, ")");
                    break;
                case 1:
                    text.append("#").append(1 + below(2)).append("(");
                    closes.insert(0, below(2) == 0 ? ")" : ",b)");
                    break;
                case 2:
                    text.append((char) ('a' + below(4))).append("{");
                    closes.insert(0, "}");
                    break;
                default:
                    text.append("!");
                    break;
            }
            text.append(below(12) == 0 ? " " : "");
        }
        text.append(aWord()).append(closes);
    }

    private static String spoilt(StringBuilder text) {
        int kind = below(12);
        if (kind == 0 && text.length() > 0) {
            text.setCharAt(below(text.length()), "abz09 |&!()*#{},:\"~[].;\u0000\u00ffA".charAt(below(26)));
        } else if (kind == 1 && text.length() > 0) {
            text.deleteCharAt(below(text.length()));
        } else if (kind == 2) {
            text.setLength(below(text.length() + 1));
        } else if (kind == 3) {
            text.insert(below(text.length() + 1), "abz09 |&!()*#{},:\"~[].;\u0000\u00ffA".charAt(below(26)));
        } else if (kind == 4 && below(6) == 0) {
            text.append(" ".repeat(Math.max(0, 298 + below(5) + 300 * below(2) - text.length())));
        }
        return text.toString();
    }

    private static void either(StringBuilder text, int deep) {
        int parts = 1 + (below(3) == 0 ? below(3) : 0);
        for (int i = 0; i < parts; i++) {
            text.append(i == 0 ? "" : "|");
            both(text, deep);
        }
    }

    private static void both(StringBuilder text, int deep) {
        int parts = 1 + (below(3) == 0 ? below(3) : 0);
        for (int i = 0; i < parts; i++) {
            text.append(i == 0 ? "" : "&").append(blanks()).append(below(5) == 0 ? "!" : "").append(blanks());
            base(text, deep);
            text.append(blanks());
        }
    }

    private static void base(StringBuilder text, int deep) {
        int kind = deep == 0 ? 9 : below(10);
        if (kind == 0) {
            text.append("(");
            either(text, deep - 1);
            text.append(")");
        } else if (kind == 1) {
            text.append("*");
        } else if (kind == 2 || kind == 3) {
            int parts = below(9) == 0 ? 18 + below(4) : 1 + below(5);
            text.append("#").append(1 + below(below(4) == 0 ? 9 : 3)).append(blanks()).append("(");
            for (int i = 0; i < parts; i++) {
                text.append(i == 0 ? "" : ",");
                either(text, parts > 5 ? 0 : deep - 1);
            }
            text.append(")");
        } else if (kind <= 5) {
            text.append((char) ('a' + below(4))).append("{");
            either(text, deep - 1);
            text.append("}");
        } else {
            leaf(text);
        }
    }

    private static void leaf(StringBuilder text) {
        if (below(3) == 0) {
            text.append((char) ('a' + below(4))).append(":").append(blanks());
        }
        int kind = below(8);
        if (kind < 2) {
            int words = below(12) == 0 ? 5 + below(3) : 1 + below(4);
            text.append("\"").append(blanks());
            for (int i = 0; i < words; i++) {
                text.append(i == 0 ? "" : " ").append(below(3) == 0 ? aWord() : WORDS[below(2)]).append(blanks());
            }
            text.append("\"").append(below(2) == 0 ? "~" + below(10) : "");
        } else if (kind == 2) {
            int low = below(below(2) == 0 ? 20 : 9999);
            text.append("[").append(below(3) == 0 ? "0" : "").append(low).append("..");
            text.append(below(9) == 0 ? below(10000) : Math.min(9999, low + below(9000))).append("]");
        } else {
            text.append(aWord()).append(below(4) == 0 ? "*" : "");
        }
    }

    private static String anObject() {
        StringBuilder text = new StringBuilder();
        int kind = below(12);
        if (kind == 0) {
            text.append("a:").append("b ".repeat(110)).append(";c:").append("a ".repeat(8 + below(4))).append(";");
        } else if (kind == 1) {
            text.append("a{}b{}c{a{}}".repeat(6 + below(2))).append("d{a:a;}".repeat(3 + below(4)));
        } else {
            unit(text, below(6));
        }
        return spoilt(text);
    }

    private static void unit(StringBuilder text, int deep) {
        int told = below(5);
        for (int i = 0; i < told; i++) {
            text.append(blanks()).append((char) ('a' + below(4)));
            if (deep > 0 && below(3) == 0) {
                text.append("{");
                unit(text, deep - 1);
                text.append("}");
            } else {
                row(text);
            }
            text.append(blanks());
        }
    }

    private static void row(StringBuilder text) {
        text.append(":");
        int words = below(6) == 0 ? below(20) : below(6);
        for (int i = 0; i < words; i++) {
            text.append(" ").append(below(2) == 0 ? aWord() : WORDS[below(3)]).append(blanks());
        }
        text.append(blanks()).append(";");
    }
}
