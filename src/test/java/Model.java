import java.util.ArrayList;
import java.util.Arrays;
import java.util.Collections;
import java.util.HashSet;
import java.util.List;
import java.util.Set;
import java.util.TreeSet;

/**
 * The document once more, as plainly and as slowly as it can be told, for comparison: sets of texts
 * instead of bits, trees of two instead of chains, every choice of places instead of the clever ones.
 */
final class Model {
    static final int BAD = -1, NONE = -2, FULL = -3;

    private static final class Fault extends RuntimeException {
        private static final long serialVersionUID = 1L;
        final int kind;
        final int place;

        Fault(int kind, int place) {
            this.kind = kind;
            this.place = place;
        }
    }

    private static final class Node {
        char kind;
        int number;
        int high;
        int field = -1;
        List<Node> parts = new ArrayList<>();
        List<String> words = new ArrayList<>();
    }

    private static final class Saved {
        int serial;
        int leaves;
        Node tree;
        TreeSet<String> needed;
    }

    private static final class Unit {
        int around = NONE;
        int field = NONE;
        List<List<Integer>> rows = List.of(new ArrayList<>(), new ArrayList<>(), new ArrayList<>(), new ArrayList<>());
    }

    private static final class Told {
        int version;
        List<Unit> units = new ArrayList<>();
        List<String> words = new ArrayList<>();
        List<Integer> spots = new ArrayList<>();
    }

    private String tape = "";
    private int place = NONE;
    private int serials;
    private int versions;
    private final Saved[] queries = new Saved[40];
    private final Told[] objects = new Told[12];
    private List<Integer> latest = new ArrayList<>();
    private int candidates;
    private int needless;
    private final List<int[]> alerts = new ArrayList<>();
    private final Set<List<Integer>> told = new HashSet<>();

    private String text;
    private int at;
    private int leaves;

    int feed(int... numbers) {
        if (tape.length() + 20 > 700) {
            return FULL;
        }
        StringBuilder more = new StringBuilder(tape);
        for (int number : numbers) {
            for (int i = 3; i >= 0; i--) {
                more.append((char) (number >> 8 * i & 255));
            }
        }
        tape = more.toString();
        return tape.length();
    }

    int end(int n) {
        if (n < 0 || n > 20 || tape.length() < 20) {
            return BAD;
        }
        tape = tape.substring(0, tape.length() - 20 + n);
        return tape.length();
    }

    int save() {
        Saved read = new Saved();
        int fault = readQuery(read);
        if (fault != 0) {
            return -10 - fault;
        }
        int q = Arrays.asList(queries).indexOf(null);
        if (q < 0) {
            return FULL;
        }
        read.serial = ++serials;
        queries[q] = read;
        return q;
    }

    int change(int q) {
        if (noQuery(q)) {
            return BAD;
        }
        Saved read = new Saved();
        int fault = readQuery(read);
        if (fault != 0) {
            return -10 - fault;
        }
        read.serial = ++serials;
        queries[q] = read;
        return read.serial;
    }

    int drop(int q) {
        if (noQuery(q)) {
            return BAD;
        }
        queries[q] = null;
        return 1;
    }

    int place() {
        return place;
    }

    int query(int q, int what) {
        if (noQuery(q) || what < 0 || what > 3) {
            return BAD;
        }
        Saved s = queries[q];
        if (what == 0 || what == 3) {
            return what == 0 ? s.serial : s.leaves;
        }
        return s.needed == null ? NONE : what == 1 ? s.needed.size() : cost(s.needed);
    }

    int needed(int q, int k, int i) {
        if (noQuery(q) || queries[q].needed == null || k < 0 || k >= queries[q].needed.size()) {
            return BAD;
        }
        String term = new ArrayList<>(queries[q].needed).get(k);
        boolean beginning = term.endsWith("*");
        String word = term.replace("*", "");
        if (i == -2) {
            return beginning ? 1 : 0;
        }
        if (i == -1) {
            return word.length();
        }
        return i < 0 || i >= word.length() ? BAD : word.charAt(i);
    }

    int object(int key) {
        if (key < 0 || key > 11) {
            return BAD;
        }
        Told read = new Told();
        text = tape;
        tape = "";
        place = NONE;
        try {
            readObject(read);
        } catch (Fault fault) {
            place = fault.place;
            return -10 - fault.kind;
        }
        read.version = ++versions;
        objects[key] = read;
        return read.units.size();
    }

    int forget(int key) {
        if (noObject(key)) {
            return BAD;
        }
        int version = objects[key].version;
        objects[key] = null;
        return version;
    }

    int about(int key, int what) {
        if (noObject(key) || what < 0 || what > 3) {
            return BAD;
        }
        Told o = objects[key];
        return List.of(o.version, o.units.size(), o.words.size(), new HashSet<>(o.words).size()).get(what);
    }

    int unit(int key, int u, int what) {
        if (noObject(key) || u < 0 || u >= objects[key].units.size() || what < 0 || what > 5) {
            return BAD;
        }
        Unit unit = objects[key].units.get(u);
        return what == 0 ? unit.around : what == 1 ? unit.field : unit.rows.get(what - 2).size();
    }

    int run(int key) {
        if (noObject(key)) {
            return BAD;
        }
        startRun();
        runOne(key);
        return latest.size();
    }

    int batch() {
        startRun();
        for (int key = 0; key < 12; key++) {
            if (objects[key] != null) {
                runOne(key);
            }
        }
        return latest.size();
    }

    int matched(int k) {
        return k < 0 || k >= latest.size() ? BAD : latest.get(k);
    }

    int alert(int k, int what) {
        if (k < 0 || k >= alerts.size() || k < alerts.size() - 100 || what < 0 || what > 3) {
            return BAD;
        }
        return alerts.get(k)[what];
    }

    int match(int q, int key) {
        return noQuery(q) || noObject(key) ? BAD : holds(queries[q].tree, objects[key], 0) ? 1 : 0;
    }

    int candidate(int q, int key) {
        return noQuery(q) || noObject(key) ? BAD : isCandidate(queries[q], objects[key]) ? 1 : 0;
    }

    int tried(int key) {
        if (noObject(key)) {
            return BAD;
        }
        int n = 0;
        for (int q = 0; q < 40; q++) {
            n += match(q, key) == 1 ? 1 : 0;
        }
        return n;
    }

    int shown(int q, int key, int k) {
        if (noQuery(q) || noObject(key)) {
            return BAD;
        }
        TreeSet<Integer> places = new TreeSet<>();
        show(queries[q].tree, objects[key], 0, places);
        if (k == -1) {
            return places.size();
        }
        return k < 0 || k >= places.size() ? BAD : new ArrayList<>(places).get(k);
    }

    int count(int what) {
        int saved = 0;
        int all = 0;
        int items = 0;
        Set<String> terms = new HashSet<>();
        for (Saved q : queries) {
            saved += q == null ? 0 : 1;
            all += q == null || q.needed != null ? 0 : 1;
            terms.addAll(q == null || q.needed == null ? Set.of() : q.needed);
        }
        for (Told o : objects) {
            items += o == null ? 0 : 1;
        }
        int[] counts = {saved, all, items, alerts.size(), candidates, needless, latest.size(), terms.size(),
            tape.length(), serials, versions};
        return what < 0 || what >= counts.length ? BAD : counts[what];
    }

    private boolean noQuery(int q) {
        return q < 0 || q > 39 || queries[q] == null;
    }

    private boolean noObject(int key) {
        return key < 0 || key > 11 || objects[key] == null;
    }

    // ---- reading a query

    private int readQuery(Saved into) {
        text = tape;
        tape = "";
        place = NONE;
        at = 0;
        leaves = 0;
        try {
            if (text.length() > 300) {
                throw new Fault(2, 300);
            }
            into.tree = either(0);
            if (peek() != 0xffff) {
                throw new Fault(1, at);
            }
        } catch (Fault fault) {
            place = fault.place;
            return fault.kind;
        }
        into.leaves = leaves;
        into.needed = needs(into.tree, false);
        return 0;
    }

    private char raw(int i) {
        return i < text.length() ? text.charAt(i) : 0xffff;
    }

    private char peek() {
        while (raw(at) == ' ') {
            at++;
        }
        return raw(at);
    }

    private void take(char due) {
        if (raw(at) != due) {
            throw new Fault(1, at);
        }
        at++;
    }

    private Node pair(char kind, Node left, Node right) {
        Node node = new Node();
        node.kind = kind;
        node.parts.add(left);
        node.parts.add(right);
        return node;
    }

    private Node either(int deep) {
        Node node = both(deep);
        while (peek() == '|') {
            at++;
            node = pair('|', node, both(deep));
        }
        return node;
    }

    private Node both(int deep) {
        Node node = one(deep);
        while (peek() == '&') {
            at++;
            node = pair('&', node, one(deep));
        }
        return node;
    }

    private int deeper(int deep) {
        if (deep == 12) {
            throw new Fault(2, at);
        }
        return deep + 1;
    }

    private Node one(int deep) {
        Node node = new Node();
        char sign = peek();
        node.kind = sign;
        switch (sign) {
            case '!':
                at++;
                node.parts.add(one(deeper(deep)));
                return node;
            case '(':
                at++;
                node = either(deeper(deep));
                peek();
                take(')');
                return node;
            case '*':
                leaf();
                at++;
                return node;
            case '#':
                counted(node, deep);
                return node;
            default:
                break;
        }
        if (sign >= 'a' && sign <= 'd' && (raw(at + 1) == '{' || raw(at + 1) == ':')) {
            boolean inner = raw(at + 1) == '{';
            at += 2;
            if (!inner) {
                peek();
                return leafAt(sign - 'a');
            }
            node.kind = '{';
            node.field = sign - 'a';
            node.parts.add(either(deeper(deep)));
            peek();
            take('}');
            return node;
        }
        return leafAt(-1);
    }

    private void counted(Node node, int deep) {
        at++;
        node.number = raw(at) - '0';
        if (raw(at) < '1' || raw(at) > '9') {
            throw new Fault(1, at);
        }
        at++;
        peek();
        take('(');
        node.parts.add(either(deeper(deep)));
        while (peek() == ',') {
            if (node.parts.size() == 20) {
                throw new Fault(2, at);
            }
            at++;
            node.parts.add(either(deep + 1));
        }
        take(')');
    }

    private void leaf() {
        if (leaves == 60) {
            throw new Fault(2, at);
        }
        leaves++;
    }

    private static boolean isSign(char sign) {
        return "abcdefghijklmnopqrstuvwxyz0123456789".indexOf(sign) >= 0;
    }

    private String word() {
        int from = at;
        while (isSign(raw(at))) {
            if (at - from == 12) {
                throw new Fault(1, at);
            }
            at++;
        }
        if (at == from) {
            throw new Fault(1, at);
        }
        return text.substring(from, at);
    }

    private int number() {
        int from = at;
        while (Character.isDigit(raw(at)) && raw(at) < 128) {
            if (at - from == 4) {
                throw new Fault(1, at);
            }
            at++;
        }
        if (at == from) {
            throw new Fault(1, at);
        }
        return Integer.parseInt(text.substring(from, at));
    }

    private Node leafAt(int field) {
        Node node = new Node();
        node.field = field;
        if (isSign(raw(at))) {
            leaf();
            node.kind = 'w';
            node.words.add(word());
            if (raw(at) == '*') {
                at++;
                node.kind = 'b';
            }
        } else if (raw(at) == '"') {
            leaf();
            node.kind = '"';
            together(node);
        } else if (raw(at) == '[') {
            leaf();
            node.kind = '[';
            at++;
            node.number = number();
            take('.');
            take('.');
            int second = at;
            node.high = number();
            if (node.high < node.number) {
                throw new Fault(3, second);
            }
            take(']');
        } else {
            throw new Fault(1, at);
        }
        return node;
    }

    private void together(Node node) {
        at++;
        while (peek() != '"' || node.words.isEmpty()) {
            if (isSign(raw(at)) && node.words.size() == 6) {
                throw new Fault(2, at);
            }
            node.words.add(word());
        }
        at++;
        if (raw(at) == '~') {
            at++;
            if (raw(at) < '0' || raw(at) > '9') {
                throw new Fault(1, at);
            }
            node.number = raw(at) - '0';
            at++;
        }
    }

    // ---- reading an object

    private void readObject(Told into) {
        at = 0;
        if (text.length() > 600) {
            throw new Fault(2, 600);
        }
        into.units.add(new Unit());
        unitAt(into, 0, 0);
        if (peek() != 0xffff) {
            throw new Fault(1, at);
        }
    }

    private void unitAt(Told into, int number, int others) {
        while (peek() >= 'a' && peek() <= 'd') {
            int field = raw(at) - 'a';
            at++;
            if (raw(at) == ':') {
                at++;
                rowAt(into, into.units.get(number).rows.get(field));
            } else if (raw(at) == '{') {
                if (into.units.size() == 30 || others == 4) {
                    throw new Fault(2, at);
                }
                at++;
                Unit part = new Unit();
                part.around = number;
                part.field = field;
                into.units.add(part);
                unitAt(into, into.units.size() - 1, others + 1);
                take('}');
            } else {
                throw new Fault(1, at);
            }
        }
    }

    private void rowAt(Told into, List<Integer> row) {
        while (peek() != ';') {
            if (isSign(raw(at)) && into.words.size() == 120) {
                throw new Fault(2, at);
            }
            int spot = at;
            into.words.add(word());
            into.spots.add(spot);
            row.add(into.words.size() - 1);
        }
        at++;
    }

    // ---- what is NEEDED (null is ALL)

    private static int cost(TreeSet<String> set) {
        if (set == null) {
            return Integer.MAX_VALUE;
        }
        int sum = 0;
        for (String term : set) {
            sum += term.endsWith("*") ? 40 - (term.length() - 1) : 24 - term.length();
        }
        return sum;
    }

    private static TreeSet<String> union(TreeSet<String> one, TreeSet<String> other) {
        if (one == null || other == null) {
            return null;
        }
        TreeSet<String> both = new TreeSet<>(one);
        both.addAll(other);
        return both;
    }

    private static TreeSet<String> least(TreeSet<String> one, TreeSet<String> other) {
        return cost(other) < cost(one) ? other : one;
    }

    private static TreeSet<String> needs(Node node, boolean turned) {
        switch (node.kind) {
            case 'w':
                return turned ? null : new TreeSet<>(node.words);
            case 'b':
                return turned ? null : new TreeSet<>(Set.of(node.words.get(0) + "*"));
            case '"':
                return turned ? null : new TreeSet<>(Set.of(longest(node.words)));
            case '[':
                return null;
            case '*':
                return turned ? new TreeSet<>() : null;
            case '{':
                return turned ? null : needs(node.parts.get(0), false);
            case '!':
                return needs(node.parts.get(0), !turned);
            case '#':
                return needsOfCounted(node, turned);
            default:
                TreeSet<String> left = needs(node.parts.get(0), turned);
                TreeSet<String> right = needs(node.parts.get(1), turned);
                return node.kind == '&' == turned ? union(left, right) : least(left, right);
        }
    }

    private static String longest(List<String> words) {
        String best = words.get(0);
        for (String word : words) {
            best = word.length() > best.length() ? word : best;
        }
        return best;
    }

    private static TreeSet<String> needsOfCounted(Node node, boolean turned) {
        int k = node.parts.size();
        int m = turned ? k - node.number + 1 : node.number;
        if (m <= 0) {
            return null;
        }
        List<TreeSet<String>> sets = new ArrayList<>();
        for (Node part : node.parts) {
            sets.add(needs(part, turned));
        }
        Collections.sort(sets, (x, y) -> Integer.compare(cost(x), cost(y)));
        TreeSet<String> all = new TreeSet<>();
        for (int i = 0; i < k - m + 1; i++) {
            all = union(all, sets.get(i));
        }
        return all;
    }

    private static boolean isCandidate(Saved query, Told object) {
        if (query.needed == null) {
            return true;
        }
        for (String word : object.words) {
            for (String term : query.needed) {
                if (term.endsWith("*") ? word.startsWith(term.substring(0, term.length() - 1)) : word.equals(term)) {
                    return true;
                }
            }
        }
        return false;
    }

    // ---- matching and showing

    private static boolean holds(Node node, Told object, int u) {
        int holding = 0;
        switch (node.kind) {
            case '|':
                return holds(node.parts.get(0), object, u) || holds(node.parts.get(1), object, u);
            case '&':
                return holds(node.parts.get(0), object, u) && holds(node.parts.get(1), object, u);
            case '!':
                return !holds(node.parts.get(0), object, u);
            case '*':
                return true;
            case '#':
                for (Node part : node.parts) {
                    holding += holds(part, object, u) ? 1 : 0;
                }
                return holding >= node.number;
            case '{':
                for (int part = 0; part < object.units.size(); part++) {
                    Unit unit = object.units.get(part);
                    if (unit.around == u && unit.field == node.field && holds(node.parts.get(0), object, part)) {
                        return true;
                    }
                }
                return false;
            default:
                TreeSet<Integer> places = new TreeSet<>();
                showLeaf(node, object, u, places);
                return !places.isEmpty();
        }
    }

    private static void show(Node node, Told object, int u, Set<Integer> places) {
        if (!holds(node, object, u) || node.kind == '!' || node.kind == '*') {
            return;
        }
        if (node.kind == '{') {
            for (int part = 0; part < object.units.size(); part++) {
                Unit unit = object.units.get(part);
                if (unit.around == u && unit.field == node.field) {
                    show(node.parts.get(0), object, part, places);
                }
            }
        } else if (node.kind == '|' || node.kind == '&' || node.kind == '#') {
            for (Node part : node.parts) {
                show(part, object, u, places);
            }
        } else {
            showLeaf(node, object, u, places);
        }
    }

    private static void showLeaf(Node node, Told object, int u, Set<Integer> places) {
        for (int field = 0; field < 4; field++) {
            if (node.field == -1 || node.field == field) {
                List<Integer> row = object.units.get(u).rows.get(field);
                if (node.kind == '"') {
                    choose(node, object, row, new ArrayList<>(), places);
                } else {
                    for (int word : row) {
                        if (fits(node, object.words.get(word))) {
                            places.add(object.spots.get(word));
                        }
                    }
                }
            }
        }
    }

    private static boolean fits(Node leaf, String word) {
        if (leaf.kind == '[') {
            return word.matches("[0-9]+") && Long.parseLong(word) >= leaf.number && Long.parseLong(word) <= leaf.high;
        }
        return leaf.kind == 'b' ? word.startsWith(leaf.words.get(0)) : word.equals(leaf.words.get(0));
    }

    private static void choose(Node leaf, Told object, List<Integer> row, List<Integer> chosen, Set<Integer> places) {
        int k = leaf.words.size();
        if (chosen.size() == k) {
            if (chosen.get(k - 1) - chosen.get(0) <= k - 1 + leaf.number) {
                for (int p : chosen) {
                    places.add(object.spots.get(row.get(p)));
                }
            }
            return;
        }
        int from = chosen.isEmpty() ? 0 : chosen.get(chosen.size() - 1) + 1;
        int to = chosen.isEmpty() ? row.size() : Math.min(row.size(), chosen.get(0) + k + leaf.number);
        for (int p = from; p < to; p++) {
            if (object.words.get(row.get(p)).equals(leaf.words.get(chosen.size()))) {
                chosen.add(p);
                choose(leaf, object, row, chosen, places);
                chosen.remove(chosen.size() - 1);
            }
        }
    }

    // ---- running

    private void startRun() {
        latest = new ArrayList<>();
        candidates = 0;
        needless = 0;
    }

    private void runOne(int key) {
        for (int q = 0; q < 40; q++) {
            if (candidate(q, key) != 1) {
                continue;
            }
            candidates++;
            needless += queries[q].needed == null ? 1 : 0;
            if (match(q, key) == 1) {
                latest.add(100 * key + q);
                if (told.add(List.of(queries[q].serial, objects[key].version))) {
                    alerts.add(new int[] {q, queries[q].serial, key, objects[key].version});
                }
            }
        }
    }
}
