import java.util.ArrayList;
import java.util.Arrays;
import java.util.HashMap;
import java.util.HashSet;
import java.util.List;
import java.util.Map;
import java.util.Set;

/** The document written down once more, as slowly and plainly as can be: ORDERS one by one, no tables. */
final class Naive {
    static final class Fault extends RuntimeException {
        private static final long serialVersionUID = 1L;
        final int code;

        Fault(int kind, int place) {
            this.code = kind + 16 * place;
        }
    }

    record Token(char type, String text, int place) {
    }

    record Saying(int first, int second, int master) {
    }

    interface Law {
        int of(int one, int other);
    }

    private static final Set<String> KEPT = Set.of("pupil", "tall", "bench", "row", "worth", "say", "like", "slip",
            "wish", "plain", "proud", "shy", "helped", "rival", "not", "and", "or");
    private static final List<String> KINDS = List.of("plain", "proud", "shy", "helped", "rival");
    private static final Set<String> FACTS = Set.of("likes", "tall", "other", "above", "below");

    StringBuilder tape = new StringBuilder();
    List<String> names = new ArrayList<>();
    List<Integer> kinds = new ArrayList<>();
    List<Integer> talls = new ArrayList<>();
    List<Integer> rows = new ArrayList<>();
    Map<List<Integer>, Integer> likes = new HashMap<>();
    int slip;
    List<Object> wish;
    List<Saying> sayings = new ArrayList<>();
    List<Integer> seats = new ArrayList<>();
    List<Integer> plans = new ArrayList<>();
    Naive[] marks = new Naive[4];

    // ---- the text

    static List<Token> tokens(String text) {
        List<Token> all = new ArrayList<>();
        int at = 0;
        while (at < text.length()) {
            char c = text.charAt(at);
            int to = at + 1;
            if (c == ' ' || c == '\n') {
                at++;
                continue;
            }
            char type = "()<=+-*;".indexOf(c) >= 0 ? c : '?';
            if (c >= 'a' && c <= 'z') {
                while (to < text.length() && text.charAt(to) >= 'a' && text.charAt(to) <= 'z') {
                    to++;
                }
                type = to - at > 8 ? '?' : 'w';
            } else if (c >= '0' && c <= '9') {
                while (to < text.length() && text.charAt(to) >= '0' && text.charAt(to) <= '9') {
                    to++;
                }
                type = to - at > 4 ? '?' : 'n';
            }
            all.add(new Token(type, text.substring(at, to), at));
            at = to;
        }
        all.add(new Token('$', "", text.length()));
        return all;
    }

    /** Reads a text by looking at one token after the other. */
    static final class Reading {
        final Naive into = new Naive();
        final List<Token> tokens;
        final Set<String> once = new HashSet<>();
        int at = 0;

        Reading(String text) {
            tokens = tokens(text);
        }

        Token look() {
            return tokens.get(at);
        }

        boolean isWord(String word) {
            return look().type == 'w' && look().text.equals(word);
        }

        Fault wrong(int kind) {
            return new Fault(kind, look().place);
        }

        void want(boolean so, int kind) {
            if (!so) {
                throw wrong(kind);
            }
        }

        int number(int most) {
            want(look().type == 'n', 1);
            int value = Integer.parseInt(look().text);
            want(value <= most, 4);
            at++;
            return value;
        }

        void word(String word) {
            want(isWord(word), 1);
            at++;
        }

        void sign(char sign) {
            want(look().type == sign, 1);
            at++;
        }

        String name() {
            want(look().type == 'w' && !KEPT.contains(look().text), 1);
            return look().text;
        }

        void all() {
            while (look().type != '$') {
                line();
            }
        }

        void line() {
            String word = look().type == 'w' ? look().text : "";
            switch (word) {
                case "pupil":
                    want(into.names.size() < 10, 5);
                    at++;
                    String name = name();
                    want(!into.names.contains(name), 3);
                    at++;
                    want(look().type == 'w' && KINDS.contains(look().text), 1);
                    int kind = KINDS.indexOf(look().text);
                    at++;
                    word("tall");
                    into.talls.add(number(99));
                    into.names.add(name);
                    into.kinds.add(kind);
                    into.seats.add(-1);
                    into.plans.add(-1);
                    break;
                case "bench":
                    want(into.rows.size() < 6, 5);
                    at++;
                    word("row");
                    into.rows.add(number(9));
                    word("worth");
                    number(99);
                    break;
                case "say":
                    want(into.sayings.size() < 40, 5);
                    at++;
                    int a = known();
                    int b = second(a);
                    at++;
                    into.sayings.add(new Saying(a, b, number(1)));
                    break;
                case "like":
                    at++;
                    int one = known();
                    int other = second(one);
                    want(!into.likes.containsKey(List.of(one, other)), 3);
                    at++;
                    into.likes.put(List.of(one, other), number(99));
                    break;
                case "slip":
                    want(once.add("slip"), 3);
                    at++;
                    into.slip = number(3);
                    break;
                case "wish":
                    want(once.add("wish"), 3);
                    at++;
                    into.wish = expression(0);
                    break;
                default:
                    throw wrong(1);
            }
            sign(';');
        }

        int known() {
            int who = into.names.indexOf(name());
            want(who >= 0, 2);
            at++;
            return who;
        }

        int second(int first) {
            int who = into.names.indexOf(name());
            want(who >= 0, 2);
            want(who != first, 3);
            return who;
        }

        List<Object> expression(int depth) {
            List<Object> left = test(depth);
            while (isWord("and") || isWord("or")) {
                String by = look().text;
                at++;
                left = List.of(by, left, test(depth));
            }
            return left;
        }

        List<Object> test(int depth) {
            List<Object> left = sum(depth);
            if (look().type == '<' || look().type == '=') {
                String by = look().text;
                at++;
                left = List.of(by, left, sum(depth));
            }
            return left;
        }

        List<Object> sum(int depth) {
            List<Object> left = product(depth);
            while (look().type == '+' || look().type == '-') {
                String by = look().text;
                at++;
                left = List.of(by, left, product(depth));
            }
            return left;
        }

        List<Object> product(int depth) {
            List<Object> left = part(depth);
            while (look().type == '*') {
                at++;
                left = List.of("*", left, part(depth));
            }
            return left;
        }

        List<Object> part(int depth) {
            Token t = look();
            boolean fact = t.type == 'w' && FACTS.contains(t.text);
            want(fact || t.type == 'n' || t.type == '(' || isWord("not"), 1);
            want(depth < 5, 5);
            at++;
            if (t.type == '(') {
                List<Object> inner = expression(depth + 1);
                sign(')');
                return inner;
            }
            return t.text.equals("not") ? List.of("not", part(depth + 1)) : List.of(t.text);
        }
    }

    int school() {
        String text = tape.toString();
        tape.setLength(0);
        Reading reading = new Reading(text);
        try {
            reading.all();
        } catch (Fault f) {
            return f.code;
        }
        take(reading.into);
        return 0;
    }

    void take(Naive from) {
        names = new ArrayList<>(from.names);
        kinds = new ArrayList<>(from.kinds);
        talls = new ArrayList<>(from.talls);
        rows = new ArrayList<>(from.rows);
        likes = new HashMap<>(from.likes);
        slip = from.slip;
        wish = from.wish;
        sayings = new ArrayList<>(from.sayings);
        seats = new ArrayList<>(from.seats);
        plans = new ArrayList<>(from.plans);
    }

    int feed(long a, long b, long c) {
        for (long v : new long[] {a, b, c}) {
            for (int i = 0; i < 8; i++) {
                int sign = (int) (v >>> 8 * (7 - i)) & 0xff;
                if ((sign == 10 || sign > 31 && sign < 127) && tape.length() < 1000) {
                    tape.append((char) sign);
                }
            }
        }
        return tape.length();
    }

    // ---- small things

    boolean is(int p) {
        return p >= 0 && p < names.size();
    }

    boolean two(int a, int b) {
        return is(a) && is(b) && a != b;
    }

    int pupil(int p, int what) {
        if (!is(p) || what < 0 || what > 3) {
            return -1;
        }
        return List.of(kinds, talls, seats, plans).get(what).get(p);
    }

    int say(int a, int b, int m) {
        if (!two(a, b) || m != 0 && m != 1 || sayings.size() == 40) {
            return -1;
        }
        sayings.add(new Saying(a, b, m));
        return sayings.size();
    }

    boolean unsay() {
        if (sayings.isEmpty()) {
            return false;
        }
        sayings.remove(sayings.size() - 1);
        return true;
    }

    int saying(int i, int what) {
        if (i < 0 || i >= sayings.size() || what < 0 || what > 2) {
            return -1;
        }
        Saying s = sayings.get(i);
        return what == 0 ? s.first : what == 1 ? s.second : s.master;
    }

    int count(int what) {
        switch (what) {
            case 0: return names.size();
            case 1: return rows.size();
            case 2: return sayings.size();
            case 3: return slip;
            case 4: return (int) seats.stream().filter(s -> s >= 0).count();
            case 5: return (int) plans.stream().filter(s -> s >= 0).count();
            case 6: return tape.length();
            default: return -1;
        }
    }

    boolean mark(int m, boolean back) {
        if (m < 0 || m > 3 || back && marks[m] == null) {
            return false;
        }
        if (back) {
            take(marks[m]);
        } else {
            marks[m] = new Naive();
            marks[m].take(this);
        }
        return true;
    }

    // ---- orders

    static List<int[]> permutations(List<Integer> of) {
        List<int[]> all = new ArrayList<>();
        permute(of, new ArrayList<>(), all);
        return all;
    }

    private static void permute(List<Integer> left, List<Integer> done, List<int[]> all) {
        if (left.isEmpty()) {
            all.add(done.stream().mapToInt(i -> i).toArray());
        }
        for (Integer p : left) {
            List<Integer> rest = new ArrayList<>(left);
            rest.remove(p);
            done.add(p);
            permute(rest, done, all);
            done.remove(done.size() - 1);
        }
    }

    static int place(int[] order, int p) {
        for (int i = 0; i < order.length; i++) {
            if (order[i] == p) {
                return i;
            }
        }
        throw new IllegalStateException();
    }

    static int broken(int[] order, List<Saying> by) {
        int n = 0;
        for (Saying s : by) {
            if (place(order, s.second) < place(order, s.first)) {
                n++;
            }
        }
        return n;
    }

    List<int[]> all() {
        List<Integer> everyone = new ArrayList<>();
        for (int i = 0; i < names.size(); i++) {
            everyone.add(i);
        }
        return permutations(everyone);
    }

    private List<Saying> fitKey;
    private int fitSize = -1;
    private List<int[]> fitKept;

    List<int[]> fitting() {
        if (fitSize != names.size() || !sayings.equals(fitKey)) {
            fitKept = fitting(all(), sayings);
            fitKey = new ArrayList<>(sayings);
            fitSize = names.size();
        }
        return fitKept;
    }

    static List<int[]> fitting(List<int[]> orders, List<Saying> by) {
        List<int[]> fit = new ArrayList<>();
        for (int[] o : orders) {
            if (broken(o, by) == 0) {
                fit.add(o);
            }
        }
        return fit;
    }

    int orders() {
        return fitting().size();
    }

    static long ahead(List<int[]> orders, int a, int b) {
        return orders.stream().filter(o -> place(o, a) < place(o, b)).count();
    }

    boolean surely(int a, int b) {
        List<int[]> fit = fitting();
        return !fit.isEmpty() && ahead(fit, a, b) == fit.size();
    }

    int sure(int a, int b) {
        if (!two(a, b) || orders() == 0) {
            return -1;
        }
        return surely(a, b) ? 1 : surely(b, a) ? 2 : 0;
    }

    int span(int p, int what) {
        if (!is(p) || what < 0 || what > 1 || orders() == 0) {
            return -1;
        }
        int least = 99;
        int greatest = -1;
        for (int[] o : fitting()) {
            least = Math.min(least, place(o, p));
            greatest = Math.max(greatest, place(o, p));
        }
        return what == 0 ? least : greatest;
    }

    List<Saying> by(int master) {
        List<Saying> some = new ArrayList<>();
        for (Saying s : sayings) {
            if (master == -1 || s.master == master) {
                some.add(s);
            }
        }
        return some;
    }

    int dropped(int master) {
        if (master < -1 || master > 1) {
            return -2;
        }
        return fewest(all(), by(master));
    }

    static int fewest(List<int[]> orders, List<Saying> by) {
        int fewest = 999;
        for (int[] o : orders) {
            fewest = Math.min(fewest, broken(o, by));
        }
        return fewest;
    }

    int[] rowOrder() {
        int fewest = dropped(-1);
        for (int[] o : all()) {
            if (broken(o, sayings) == fewest) {
                return o;
            }
        }
        throw new IllegalStateException();
    }

    int row(int i) {
        return is(i) ? rowOrder()[i] : -1;
    }

    int helped() {
        int bits = 0;
        if (orders() > 0) {
            return 0;
        }
        for (int p = 0; p < names.size(); p++) {
            if (!fitting(all(), without(p)).isEmpty()) {
                bits += 1 << p;
            }
        }
        return bits;
    }

    List<Saying> without(int p) {
        List<Saying> some = new ArrayList<>();
        for (Saying s : sayings) {
            if (s.first != p && s.second != p) {
                some.add(s);
            }
        }
        return some;
    }

    int unlike() {
        Set<List<Integer>> pairs = new HashSet<>();
        for (Saying s : sayings) {
            for (Saying t : sayings) {
                if (s.master != t.master && s.first == t.second && s.second == t.first) {
                    pairs.add(List.of(Math.min(s.first, s.second), Math.max(s.first, s.second)));
                }
            }
        }
        return pairs.size();
    }

    long chance(int a, int b, int what) {
        if (!two(a, b) || what < 0 || what > 1 || sayings.size() > 12) {
            return -1;
        }
        long part = 0;
        long whole = 0;
        for (int[] o : all()) {
            long weight = 1;
            for (Saying s : sayings) {
                int own = kinds.get(s.first) == 3 ? slip * 2 : slip;
                weight *= place(o, s.first) < place(o, s.second) ? 8 - own : own;
            }
            whole += weight;
            part += place(o, a) < place(o, b) ? weight : 0;
        }
        if (whole == 0) {
            return -1;
        }
        java.math.BigInteger g = java.math.BigInteger.valueOf(part).gcd(java.math.BigInteger.valueOf(whole));
        return (what == 0 ? part : whole) / g.longValueExact();
    }

    int next(int what) {
        List<int[]> fit = fitting();
        if (what < 0 || what > 2 || fit.size() < 2) {
            return -1;
        }
        int[] best = null;
        for (int a = 0; a < names.size(); a++) {
            for (int b = a + 1; b < names.size(); b++) {
                int yes = (int) ahead(fit, a, b);
                int most = Math.max(yes, fit.size() - yes);
                if (most < fit.size() && (best == null || most < best[2])) {
                    best = new int[] {a, b, most};
                }
            }
        }
        return best[what];
    }

    private final Map<List<Integer>, Integer> neededKept = new HashMap<>();

    int needed() {
        if (names.size() > 5 || orders() == 0) {
            return -1;
        }
        neededKept.clear();
        return needed(fitting());
    }

    private int needed(List<int[]> left) {
        if (left.size() == 1) {
            return 0;
        }
        List<Integer> key = new ArrayList<>();
        left.forEach(o -> key.add(Arrays.hashCode(o)));
        if (neededKept.containsKey(key)) {
            return neededKept.get(key);
        }
        int best = 99;
        for (int a = 0; a < names.size(); a++) {
            for (int b = a + 1; b < names.size(); b++) {
                List<int[]> yes = fitting(left, List.of(new Saying(a, b, 0)));
                List<int[]> no = fitting(left, List.of(new Saying(b, a, 0)));
                if (!yes.isEmpty() && !no.isEmpty()) {
                    best = Math.min(best, 1 + Math.max(needed(yes), needed(no)));
                }
            }
        }
        neededKept.put(key, best);
        return best;
    }

    int newOne(int p) {
        if (!is(p)) {
            return -1;
        }
        List<Integer> others = new ArrayList<>();
        for (int i = 0; i < names.size(); i++) {
            if (i != p) {
                others.add(i);
            }
        }
        List<int[]> theirs = fitting(permutations(others), without(p));
        if (theirs.size() != 1) {
            return -1;
        }
        int places = orders();
        if (places == 0) {
            return -1;
        }
        int asks = 0;
        while (Math.pow(2, asks) < places) {
            asks++;
        }
        return asks;
    }

    // ---- seats

    boolean sit(int p, int seat) {
        if (!is(p) || seat < -1 || seat >= 2 * rows.size() || seats.get(p) == seat) {
            return false;
        }
        if (seat >= 0 && seats.contains(seat)) {
            return false;
        }
        seats.set(p, seat);
        return true;
    }

    boolean plan(int p, int seat) {
        if (!is(p) || seat < -1 || seat >= 2 * rows.size()) {
            return false;
        }
        if (seat >= 0 && plans.contains(seat) && plans.get(p) != seat) {
            return false;
        }
        plans.set(p, seat);
        return true;
    }

    /** Looks at all seatings that one change, two changes and so on lead to. */
    int changes() {
        if (seats.contains(-1) || plans.contains(-1)) {
            return -1;
        }
        Set<List<Integer>> seen = new HashSet<>();
        Set<List<Integer>> edge = Set.of(List.copyOf(seats));
        int steps = 0;
        while (!edge.contains(plans)) {
            Set<List<Integer>> further = new HashSet<>();
            seen.addAll(edge);
            for (List<Integer> from : edge) {
                for (int p = 0; p < from.size(); p++) {
                    for (int seat = 0; seat < 2 * rows.size(); seat++) {
                        List<Integer> to = new ArrayList<>(from);
                        int holder = from.indexOf(seat);
                        if (holder >= 0) {
                            to.set(holder, from.get(p));
                        }
                        to.set(p, seat);
                        if (!seen.contains(to)) {
                            further.add(to);
                        }
                    }
                }
            }
            edge = further;
            steps++;
        }
        return steps;
    }

    /** -1 where it is refused. */
    int hidden(int p) {
        if (!is(p) || seats.get(p) == -1) {
            return -1;
        }
        int n = 0;
        for (int q = 0; q < names.size(); q++) {
            int s = seats.get(q);
            int own = seats.get(p);
            if (s >= 0 && s % 2 == own % 2 && rows.get(s / 2) < rows.get(own / 2) && talls.get(q) > talls.get(p)) {
                n++;
            }
        }
        return n;
    }

    // ---- wishes

    private static int truth(boolean so) {
        return so ? 1 : 0;
    }

    @SuppressWarnings("unchecked")
    private int value(List<Object> e, int one, int other) {
        String head = (String) e.get(0);
        if (e.size() == 1) {
            switch (head) {
                case "likes": return likes.getOrDefault(List.of(one, other), 0);
                case "tall": return talls.get(one);
                case "other": return talls.get(other);
                case "above": return truth(surely(other, one));
                case "below": return truth(surely(one, other));
                default: return Integer.parseInt(head);
            }
        }
        int a = value((List<Object>) e.get(1), one, other);
        if (head.equals("not")) {
            return truth(a == 0);
        }
        int b = value((List<Object>) e.get(2), one, other);
        switch (head) {
            case "and": return truth(a != 0 && b != 0);
            case "or": return truth(a != 0 || b != 0);
            case "<": return truth(a < b);
            case "=": return truth(a == b);
            case "+": return a + b;
            case "-": return a - b;
            default: return a * b;
        }
    }

    int wishes(int one, int other) {
        if (!two(one, other)) {
            return -1;
        }
        int w = value(wish == null ? List.of("likes") : wish, one, other);
        w = w < 0 ? 0 : w > 999 ? 999 : w;
        String kind = KINDS.get(kinds.get(one));
        if (kind.equals("proud") && surely(other, one)) {
            w = 0;
        }
        if (kind.equals("shy") && likes.getOrDefault(List.of(one, other), 0) > 0) {
            w += 10;
        }
        if (kind.equals("rival") && surely(other, one)) {
            w += 20;
        }
        return w > 999 ? 999 : w;
    }

    private List<int[]> restsFound() {
        int n = names.size();
        if (n != 2 && n != 4 && n != 6 && n != 8) {
            return null;
        }
        int[][] w = new int[n][n];
        for (int a = 0; a < n; a++) {
            for (int b = 0; b < n; b++) {
                w[a][b] = a == b ? -1 : wishes(a, b);
            }
        }
        List<int[]> all = new ArrayList<>();
        mates(new int[n], 0, all);
        all.removeIf(mate -> restless(mate, w));
        all.sort(Arrays::compare);
        return all;
    }

    private static boolean restless(int[] mate, int[][] w) {
        for (int a = 0; a < mate.length; a++) {
            for (int b = 0; b < mate.length; b++) {
                if (a != b && mate[a] != b && w[a][b] > w[a][mate[a]] && w[b][a] > w[b][mate[b]]) {
                    return true;
                }
            }
        }
        return false;
    }

    /** Every way to give each one a mate, then those that are so both ways. */
    private static void mates(int[] mate, int at, List<int[]> all) {
        if (at == mate.length) {
            all.add(mate.clone());
            return;
        }
        for (int m = 0; m < mate.length; m++) {
            boolean fine = m > at;
            for (int q = 0; q < at; q++) {
                if (mate[q] == at) {
                    fine = m == q;
                    break;
                }
                fine &= mate[q] != m;
            }
            if (fine) {
                mate[at] = m;
                mates(mate, at + 1, all);
            }
        }
    }

    int rests() {
        List<int[]> found = restsFound();
        return found == null ? -1 : found.size();
    }

    int rest(int i, int p) {
        List<int[]> found = restsFound();
        return found == null || !is(p) || i < 0 || i >= found.size() ? -1 : found.get(i)[p];
    }

    // ---- seasons

    private java.math.BigInteger g;

    private int draw(int m) {
        g = g.multiply(java.math.BigInteger.valueOf(1103515245)).add(java.math.BigInteger.valueOf(12345))
                .mod(java.math.BigInteger.valueOf(2147483648L));
        return (int) (g.longValueExact() / 65536 % m);
    }

    int season(int seed, int what) {
        if (seed < 0 || seed > 9999 || what < 0 || what > 1 || names.size() < 2) {
            return -1;
        }
        g = java.math.BigInteger.valueOf(seed);
        int[] row = rowOrder();
        List<Saying> trial = new ArrayList<>(sayings);
        List<int[]> all = all();
        for (int day = 0; day <= 100; day++) {
            if (what == 0 && fitting(all, trial).size() == 1) {
                return day;
            }
            if (what == 1 && day == 20) {
                return fewest(all, trial);
            }
            List<Integer> rest = new ArrayList<>();
            for (int i = 0; i < names.size(); i++) {
                rest.add(i);
            }
            int one = rest.remove(draw(names.size()));
            int other = rest.get(draw(names.size() - 1));
            boolean slipped = draw(8) < slip;
            boolean first = place(row, one) < place(row, other);
            if (slipped) {
                first = !first;
            }
            trial.add(first ? new Saying(one, other, 0) : new Saying(other, one, 0));
            if (trial.size() > 40) {
                trial.remove(0);
            }
        }
        return -1;
    }
}
