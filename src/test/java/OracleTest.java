import java.util.ArrayList;
import java.util.List;
import java.util.NoSuchElementException;
import java.util.Random;

/** Runs of calls drawn by fixed seeds: each answer must be the one of the plain model. */
final class OracleTest {
    private static final String[] KINDS = {"plain", "proud", "shy", "helped", "rival"};
    private static final String[] FACTS = {"likes", "tall", "other", "above", "below"};
    private static final String SIGNS = " \n;()<=+-*0123456789abcorntlX!?~";

    private final Random random;
    private final BenchOrder x = new BenchOrder();
    private final Naive y = new Naive();
    private final String run;

    private OracleTest(int seed) {
        random = new Random(seed);
        run = "seed " + seed + ": ";
    }

    public static void main(String[] args) {
        for (int seed = 0; seed < 1500; seed++) {
            new OracleTest(seed).play(seed % 50 == 0 ? 7 : seed % 7 == 0 ? 6 : 5, 60);
        }
        for (int seed = 3000; seed < 3012; seed++) {
            new OracleTest(seed).play(8, 25);
        }
        for (int seed = 5000; seed < 11000; seed++) {
            new OracleTest(seed).texts();
        }
        Check.end();
    }

    private int up(int below) {
        return random.nextInt(below);
    }

    private String blank() {
        return up(4) == 0 ? " \n" : " ";
    }

    private void play(int most, int calls) {
        read(schoolText(most));
        for (int i = 0; i < calls; i++) {
            call(most);
        }
    }

    private void texts() {
        for (int i = 0; i < 6; i++) {
            StringBuilder text = new StringBuilder(up(8) == 0 ? wideText() : schoolText(10));
            for (int k = up(4); k > 0 && text.length() > 0; k--) {
                int at = up(text.length());
                switch (up(3)) {
                    case 0 -> text.deleteCharAt(at);
                    case 1 -> text.insert(at, SIGNS.charAt(up(SIGNS.length())));
                    default -> text.setCharAt(at, SIGNS.charAt(up(SIGNS.length())));
                }
            }
            read(text.toString());
            small();
        }
    }

    /** More of everything than may be. */
    private String wideText() {
        StringBuilder text = new StringBuilder();
        for (int i = 0; i < 2; i++) {
            text.append("pupil ").append((char) ('a' + i)).append(" shy tall 3;");
        }
        int kind = up(4);
        for (int i = 0; i < 45; i++) {
            switch (kind) {
                case 0 -> text.append("say a b 1;");
                case 1 -> text.append("bench row 1 worth 2;");
                case 2 -> text.append("pupil c").append((char) ('a' + i % 26)).append(" shy tall 1;");
                default -> text.append("say b a ").append(up(8) == 0 ? "2;" : "0;");
            }
        }
        return text.toString();
    }

    private void small() {
        for (int what = -1; what < 8; what++) {
            Check.due(run + "count(" + what + ")", x.count(what), y.count(what));
        }
        for (int p = 0; p < y.names.size(); p++) {
            for (int what = 0; what < 4; what++) {
                Check.due(run + "pupil", x.pupil(p, what), y.pupil(p, what));
            }
        }
        for (int i = 0; i < y.sayings.size(); i++) {
            for (int what = 0; what < 3; what++) {
                Check.due(run + "saying", x.saying(i, what), y.saying(i, what));
            }
        }
    }

    private void read(String text) {
        for (int i = 0; i < text.length(); i += 24) {
            long a = Check.eight(text, i);
            long b = Check.eight(text, i + 8);
            long c = Check.eight(text, i + 16);
            Check.due(run + "feed", x.feed(a, b, c), y.feed(a, b, c));
        }
        Check.due(run + "school() of " + text.replace('\n', '/'), x.school(), y.school());
    }

    private String schoolText(int most) {
        StringBuilder text = new StringBuilder();
        List<String> names = new ArrayList<>();
        int pupils = up(most + 1);
        for (int i = 0; i < pupils; i++) {
            String name = up(6) == 0 ? FACTS[up(5)] : String.valueOf((char) ('a' + i));
            names.add(name);
            text.append("pupil").append(blank()).append(name).append(' ').append(KINDS[up(5)]).append(blank())
                    .append("tall").append(up(2) == 0 ? "" : " ").append(up(8)).append(';');
        }
        if (up(3) > 0) {
            text.append("slip ").append(up(4)).append(";\n");
        }
        for (int i = up(5); i > 0; i--) {
            text.append("bench row ").append(up(4)).append("worth ").append(up(100)).append(';');
        }
        for (int i = up(9); i > 0 && pupils > 1; i--) {
            int a = up(pupils);
            int b = up(pupils);
            boolean keep = up(4) > 0;
            text.append("say ").append(names.get(keep ? Math.min(a, b) : a)).append(blank())
                    .append(names.get(keep ? Math.max(a, b) : b)).append(' ').append(up(2)).append(';');
        }
        for (int i = up(12); i > 0 && pupils > 1; i--) {
            text.append("like ").append(names.get(up(pupils))).append(' ').append(names.get(up(pupils))).append(' ')
                    .append(up(20)).append(';');
        }
        if (up(2) == 0) {
            text.append("wish ").append(law(up(3) == 0 ? 6 : 3)).append(';');
        }
        return text.toString();
    }

    private String law(int depth) {
        StringBuilder text = new StringBuilder(test(depth));
        while (up(3) == 0) {
            text.append(up(2) == 0 ? " and " : " or ").append(test(depth));
        }
        return text.toString();
    }

    private String test(int depth) {
        return up(3) > 0 ? sum(depth) : sum(depth) + (up(2) == 0 ? "<" : " = ") + sum(depth);
    }

    private String sum(int depth) {
        StringBuilder text = new StringBuilder(part(depth));
        while (up(2) == 0) {
            text.append("+-**".charAt(up(4))).append(part(depth));
        }
        return text.toString();
    }

    private String part(int depth) {
        int which = up(depth > 0 ? 6 : 4);
        if (which < 2) {
            return String.valueOf(up(9) == 0 ? up(10000) : up(30));
        }
        if (which < 4) {
            return FACTS[up(5)];
        }
        return which == 4 ? "not " + part(depth - 1) : "(" + law(depth - 1) + ")";
    }

    private int who() {
        return up(y.names.size() + 3) - 1;
    }

    private int seat() {
        return up(2 * y.rows.size() + 3) - 2;
    }

    private void call(int most) {
        int a = who();
        int b = who();
        int what = up(5) - 1;
        String told = run + "(" + a + ", " + b + ", " + what + ") ";
        switch (up(32)) {
            case 0 -> Check.due(told + "pupil", x.pupil(a, what), y.pupil(a, what));
            case 1, 2, 3 -> {
                int m = up(5) == 0 ? what : up(2);
                Check.due(told + "say", x.say(a, b, m), y.say(a, b, m));
            }
            case 4 -> Check.due(told + "unsay", x.unsay(), y.unsay());
            case 5 -> Check.due(told + "saying", x.saying(a, what), y.saying(a, what));
            case 6 -> Check.due(told + "orders", x.orders(), y.orders());
            case 7 -> Check.due(told + "sure", x.sure(a, b), y.sure(a, b));
            case 8 -> Check.due(told + "span", x.span(a, what), y.span(a, what));
            case 9 -> Check.due(told + "dropped", x.dropped(what - 1), y.dropped(what - 1));
            case 10 -> Check.due(told + "row", x.row(a), y.row(a));
            case 11 -> Check.due(told + "helped", x.helped(), y.helped());
            case 12 -> Check.due(told + "unlike", x.unlike(), y.unlike());
            case 13, 14 -> Check.due(told + "chance", x.chance(a, b, what), y.chance(a, b, what));
            case 15 -> Check.due(told + "next", x.next(what), y.next(what));
            case 16 -> Check.due(told + "needed", x.needed(), y.needed());
            case 17 -> Check.due(told + "newOne", x.newOne(a), y.newOne(a));
            case 18, 19 -> seats(told, true);
            case 20, 21 -> seats(told, false);
            case 22 -> settle(told);
            case 23 -> hidden(told, a);
            case 24 -> Check.due(told + "wishes", x.wishes(a, b), y.wishes(a, b));
            case 25 -> Check.due(told + "rests", x.rests(), y.rests());
            case 26 -> Check.due(told + "rest", x.rest(what, a), y.rest(what, a));
            case 27 -> {
                int seed = up(10400) - 200;
                Check.due(told + "season " + seed, x.season(seed, what), y.season(seed, what));
            }
            case 28 -> {
                boolean back = up(2) == 0;
                int mark = up(6) - 1;
                Check.due(told + "mark", x.mark(mark, back), y.mark(mark, back));
            }
            case 29 -> small();
            case 30 -> {
                long f = random.nextLong();
                long g = random.nextLong();
                Check.due(told + "feed", x.feed(f, g, f), y.feed(f, g, f));
            }
            default -> {
                if (up(3) == 0) {
                    read(schoolText(most));
                }
            }
        }
    }

    private void seats(String told, boolean sit) {
        int p = who();
        int s = seat();
        if (sit) {
            Check.due(told + "sit " + p + " on " + s, x.sit(p, s), y.sit(p, s));
        } else {
            Check.due(told + "plan " + p + " on " + s, x.plan(p, s), y.plan(p, s));
        }
        Check.due(told + "who sit", x.count(4), y.count(4));
        Check.due(told + "who are planned", x.count(5), y.count(5));
    }

    private void settle(String told) {
        for (int p = 0; p < y.names.size() && y.names.size() < 6; p++) {
            for (int tries = 0; tries < 8; tries++) {
                int s = seat();
                int t = seat();
                Check.due(told + "sit", x.sit(p, s), y.sit(p, s));
                Check.due(told + "plan", x.plan(p, t), y.plan(p, t));
            }
        }
        if (y.names.size() < 6) {
            Check.due(told + "changes", x.changes(), y.changes());
        }
        for (int p = 0; p < y.names.size(); p++) {
            hidden(told, p);
        }
    }

    private void hidden(String told, int p) {
        int got;
        try {
            got = x.hidden(p);
        } catch (NoSuchElementException e) {
            got = -1;
        }
        Check.due(told + "hidden " + p, got, y.hidden(p));
    }
}
