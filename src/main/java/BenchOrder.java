import java.util.Arrays;
import java.util.NoSuchElementException;

/** Better than the one beside: a school without marks, where a master only says of two who was better. */
public final class BenchOrder {
    public static final int NONE = -1;

    private static final int MOST_SIGNS = 1000;
    private static final int MOST_LETTERS = 8;
    private static final int MOST_DIGITS = 4;
    // A WORD is one long: letters are 1 to 26, so that no two WORDS are alike.
    private static final int LETTER_ROOM = 32;
    private static final int LETTER_BASE = 'a' - 1;
    private static final int MOST_PUPILS = 10;
    private static final int MOST_BENCHES = 6;
    private static final int MOST_SAYINGS = 40;
    private static final int MOST_WEIGHED = 12;
    private static final int MOST_ASKED = 5;
    private static final int MOST_PAIRED = 8;
    private static final int MOST_PAIRINGS = 105;
    private static final int MOST_NESTED = 5;
    private static final int MARKS = 4;
    private static final int MASTERS = 2;
    private static final int SETS = 1 << MOST_PUPILS;
    private static final int GREATEST_WISH = 999;
    private static final int GREATEST_SEED = 9999;
    private static final int SEASON_DAYS = 100;
    private static final int DROP_DAYS = 20;
    private static final int SLIP_PARTS = 8;

    private static final int PROUD = 1;
    private static final int SHY = 2;
    private static final int HELPED = 3;
    private static final int RIVAL = 4;

    private static final int CANNOT_STAND = 1;
    private static final int UNKNOWN_NAME = 2;
    private static final int TOLD_ALREADY = 3;
    private static final int NOT_AS_TOLD = 4;
    private static final int TOO_MANY = 5;

    private static final int END = 0;
    private static final int NO_TOKEN = 1;
    private static final int WORD = 2;
    private static final int NUMBER = 3;

    // Steps of a wish: what is 0 or more is a NUMBER, so these are below 0; facts come before NOT.
    private static final int NO_STEP = 0;
    private static final int LIKES = -1;
    private static final int TALL = -2;
    private static final int OTHER = -3;
    private static final int ABOVE = -4;
    private static final int BELOW = -5;
    private static final int NOT = -6;
    private static final int AND = -7;
    private static final int OR = -8;
    private static final int LESS = -9;
    private static final int EQUAL = -10;
    private static final int PLUS = -11;
    private static final int MINUS = -12;
    private static final int TIMES = -13;

    private static final int NO_ORDER = 0;
    private static final int ONE_ORDER = 1;
    private static final int MORE_ORDERS = 2;

    private static final Word[] WORDS = Word.values();

    private final byte[] tape = new byte[MOST_SIGNS];
    private int signs;
    private final Reader reader = new Reader();
    private final Sheet now = new Sheet();
    private final Sheet[] marks = new Sheet[MARKS];
    private final Ladder ladder = new Ladder();
    private final Tally fitting = new Tally(false);
    private final Tally slipping = new Tally(true);
    private final Breaks breaks = new Breaks();
    private final Asking asking = new Asking();
    private final Wishing wishing = new Wishing();
    private final Season year = new Season();

    public BenchOrder() {
        for (int i = 0; i < MARKS; i++) {
            marks[i] = new Sheet();
        }
    }

    public int feed(long a, long b, long c) {
        putBytes(a);
        putBytes(b);
        putBytes(c);
        return signs;
    }

    public int school() {
        int fault = reader.read(tape, signs);
        signs = 0;
        if (fault == 0) {
            now.copyFrom(reader.draft);
            forgetStudies();
        }
        return fault;
    }

    public int pupil(int pupil, int what) {
        if (!isPupil(pupil)) {
            return NONE;
        }
        switch (what) {
            case 0:
                return now.school.kind[pupil];
            case 1:
                return now.school.tall[pupil];
            case 2:
                return now.seat[pupil];
            case 3:
                return now.planned[pupil];
            default:
                return NONE;
        }
    }

    public int say(int better, int other, int master) {
        boolean heard = areTwo(better, other) && master >= 0 && master < MASTERS;
        if (!heard || now.sayings >= MOST_SAYINGS) {
            return NONE;
        }
        now.addSaying(better, other, master);
        forgetStudies();
        return now.sayings;
    }

    public boolean unsay() {
        if (now.sayings == 0) {
            return false;
        }
        now.sayings--;
        forgetStudies();
        return true;
    }

    public int saying(int i, int what) {
        if (i < 0 || i >= now.sayings) {
            return NONE;
        }
        switch (what) {
            case 0:
                return now.first[i];
            case 1:
                return now.second[i];
            case 2:
                return now.master[i];
            default:
                return NONE;
        }
    }

    public int orders() {
        fitting.weigh(now);
        return (int) fitting.all();
    }

    public int sure(int a, int b) {
        ladder.study(now);
        if (!areTwo(a, b) || !ladder.fits) {
            return NONE;
        }
        if (ladder.isAbove(a, b)) {
            return 1;
        }
        return ladder.isAbove(b, a) ? 2 : 0;
    }

    public int span(int pupil, int what) {
        ladder.study(now);
        if (!isPupil(pupil) || !ladder.fits) {
            return NONE;
        }
        switch (what) {
            case 0:
                return ladder.leastPlace(pupil);
            case 1:
                return ladder.greatestPlace(pupil);
            default:
                return NONE;
        }
    }

    public int dropped(int master) {
        if (master < NONE || master >= MASTERS) {
            return -2;
        }
        breaks.study(now, master);
        return breaks.fewest();
    }

    public int row(int i) {
        if (!isPupil(i)) {
            return NONE;
        }
        breaks.study(now, NONE);
        return breaks.line[i];
    }

    public int helped() {
        ladder.study(now);
        return ladder.fits ? 0 : ladder.untangling();
    }

    public int unlike() {
        int pairs = 0;
        for (int a = 0; a < now.school.pupils; a++) {
            for (int b = a + 1; b < now.school.pupils; b++) {
                if (now.isSaid(a, b, 0) && now.isSaid(b, a, 1) || now.isSaid(b, a, 0) && now.isSaid(a, b, 1)) {
                    pairs++;
                }
            }
        }
        return pairs;
    }

    public long chance(int a, int b, int what) {
        if (!areTwo(a, b) || what < 0 || what > 1 || now.sayings > MOST_WEIGHED) {
            return NONE;
        }
        slipping.weigh(now);
        long all = slipping.all();
        if (all <= 0) {
            return NONE;
        }
        slipping.compare();
        long part = slipping.aheadOf(a, b);
        long divisor = commonDivisor(all, part);
        return (what == 0 ? part : all) / divisor;
    }

    public int next(int what) {
        fitting.weigh(now);
        if (what < 0 || what > 2 || fitting.all() <= 1) {
            return NONE;
        }
        fitting.compare();
        return fitting.bestQuestion(what);
    }

    public int needed() {
        return now.school.pupils > MOST_ASKED ? NONE : asking.fewestAsks(now);
    }

    public int newOne(int pupil) {
        if (!isPupil(pupil)) {
            return NONE;
        }
        ladder.study(now);
        int places = ladder.placesFor(pupil);
        if (places <= 0) {
            return NONE;
        }
        int asks = 0;
        while (asks < MOST_PUPILS && 1 << asks < places) {
            asks++;
        }
        return asks;
    }

    public boolean sit(int pupil, int seat) {
        if (!isPupil(pupil) || !isSeatOrNone(seat) || now.seat[pupil] == seat) {
            return false;
        }
        if (seat != NONE && now.sitterOn(seat) != NONE) {
            return false;
        }
        now.seat[pupil] = seat;
        return true;
    }

    public boolean plan(int pupil, int seat) {
        if (!isPupil(pupil) || !isSeatOrNone(seat)) {
            return false;
        }
        for (int other = 0; other < now.school.pupils; other++) {
            if (seat != NONE && other != pupil && now.planned[other] == seat) {
                return false;
            }
        }
        now.planned[pupil] = seat;
        return true;
    }

    public int changes() {
        int pupils = now.school.pupils;
        if (now.placedOf(now.seat) < pupils || now.placedOf(now.planned) < pupils) {
            return NONE;
        }
        // A ring of n who want one another's SEATS needs n - 1 changes, a chain that ends at a free SEAT one for each.
        return pupils - now.ringsOfSeats();
    }

    public int hidden(int pupil) throws NoSuchElementException {
        if (!isPupil(pupil) || now.seat[pupil] == NONE) {
            throw new NoSuchElementException();
        }
        return now.tallerAhead(pupil);
    }

    public int wishes(int pupil, int other) {
        if (!areTwo(pupil, other)) {
            return NONE;
        }
        ladder.study(now);
        return wishing.wishOf(now.school, ladder, pupil, other);
    }

    public int rests() {
        return findRests() ? wishing.found : NONE;
    }

    public int rest(int i, int pupil) {
        if (!isPupil(pupil) || i < 0 || !findRests() || i >= wishing.found) {
            return NONE;
        }
        return wishing.mateIn(i, pupil);
    }

    public int season(int seed, int what) {
        boolean known = seed >= 0 && seed <= GREATEST_SEED && what >= 0 && what <= 1;
        if (!known || now.school.pupils < 2) {
            return NONE;
        }
        breaks.study(now, NONE);
        year.open(now, breaks.line, seed);
        if (what == 0) {
            return year.daysUntilKnown();
        }
        year.passDays(DROP_DAYS);
        breaks.forget();
        breaks.study(year.trial, NONE);
        int fewest = breaks.fewest();
        // What was studied is the season's SAYINGS, not those that are there.
        breaks.forget();
        return fewest;
    }

    public boolean mark(int mark, boolean back) {
        if (mark < 0 || mark >= MARKS) {
            return false;
        }
        if (!back) {
            marks[mark].copyFrom(now);
            marks[mark].laid = true;
            return true;
        }
        if (!marks[mark].laid) {
            return false;
        }
        now.copyFrom(marks[mark]);
        forgetStudies();
        return true;
    }

    public int count(int what) {
        switch (what) {
            case 0:
                return now.school.pupils;
            case 1:
                return now.school.benches;
            case 2:
                return now.sayings;
            case 3:
                return now.school.slip;
            case 4:
                return now.placedOf(now.seat);
            case 5:
                return now.placedOf(now.planned);
            case 6:
                return signs;
            default:
                return NONE;
        }
    }

    private void putBytes(long eight) {
        for (int shift = 56; shift >= 0; shift -= 8) {
            int sign = (int) (eight >>> shift & 255L);
            if ((sign == 10 || sign >= 32 && sign <= 126) && signs < MOST_SIGNS) {
                tape[signs] = (byte) sign;
                signs++;
            }
        }
    }

    private boolean isPupil(int pupil) {
        return pupil >= 0 && pupil < now.school.pupils;
    }

    private boolean areTwo(int one, int other) {
        return isPupil(one) && isPupil(other) && one != other;
    }

    private boolean isSeatOrNone(int seat) {
        return seat >= NONE && seat < 2 * now.school.benches;
    }

    private boolean findRests() {
        int pupils = now.school.pupils;
        if (pupils < 2 || pupils > MOST_PAIRED || pupils % 2 != 0) {
            return false;
        }
        ladder.study(now);
        wishing.study(now.school, ladder);
        return true;
    }

    private void forgetStudies() {
        ladder.forget();
        fitting.forget();
        slipping.forget();
        breaks.forget();
        wishing.forget();
    }

    private static long commonDivisor(long a, long b) {
        long greater = a;
        long lesser = b;
        for (int i = 0; i < 200 && lesser > 0; i++) {
            long rest = greater % lesser;
            greater = lesser;
            lesser = rest;
        }
        return greater > 0 ? greater : 1;
    }

    /** The words of the language that mean something; those not reserved may be NAMES too. */
    private enum Word {
        PUPIL_LINE("pupil", NONE, NO_STEP, true),
        BENCH_LINE("bench", NONE, NO_STEP, true),
        SAY_LINE("say", NONE, NO_STEP, true),
        LIKE_LINE("like", NONE, NO_STEP, true),
        SLIP_LINE("slip", NONE, NO_STEP, true),
        WISH_LINE("wish", NONE, NO_STEP, true),
        ROW_WORD("row", NONE, NO_STEP, true),
        WORTH_WORD("worth", NONE, NO_STEP, true),
        PLAIN_KIND("plain", 0, NO_STEP, true),
        PROUD_KIND("proud", PROUD, NO_STEP, true),
        SHY_KIND("shy", SHY, NO_STEP, true),
        HELPED_KIND("helped", HELPED, NO_STEP, true),
        RIVAL_KIND("rival", RIVAL, NO_STEP, true),
        NOT_WORD("not", NONE, NO_STEP, true),
        AND_WORD("and", NONE, NO_STEP, true),
        OR_WORD("or", NONE, NO_STEP, true),
        TALL_FACT("tall", NONE, TALL, true),
        LIKES_FACT("likes", NONE, LIKES, false),
        OTHER_FACT("other", NONE, OTHER, false),
        ABOVE_FACT("above", NONE, ABOVE, false),
        BELOW_FACT("below", NONE, BELOW, false);

        final long code;
        final int kind;
        final int fact;
        final boolean reserved;

        Word(String text, int kind, int fact, boolean reserved) {
            long all = 0;
            for (int i = 0; i < text.length(); i++) {
                all = all * LETTER_ROOM + (text.charAt(i) - LETTER_BASE);
            }
            this.code = all;
            this.kind = kind;
            this.fact = fact;
            this.reserved = reserved;
        }
    }

    /** Who and what is there, as the language told it; nothing in it changes once it has been read. */
    private static final class School {
        final int[] kind = new int[MOST_PUPILS];
        final int[] tall = new int[MOST_PUPILS];
        final int[] benchRow = new int[MOST_BENCHES];
        final int[] liking = new int[MOST_PUPILS * MOST_PUPILS];
        int pupils;
        int benches;
        int slip;
        int[] wish = {LIKES};

        int slipOf(int better) {
            return kind[better] == HELPED ? 2 * slip : slip;
        }

        int likingOf(int one, int other) {
            return liking[one * MOST_PUPILS + other];
        }

        int everyone() {
            return (1 << pupils) - 1;
        }
    }

    /** All that a MARK holds: the SCHOOL, its SAYINGS, who sits where, what is PLANNED. */
    private static final class Sheet {
        School school = new School();
        final int[] first = new int[MOST_SAYINGS];
        final int[] second = new int[MOST_SAYINGS];
        final int[] master = new int[MOST_SAYINGS];
        int sayings;
        final int[] seat = new int[MOST_PUPILS];
        final int[] planned = new int[MOST_PUPILS];
        boolean laid;

        Sheet() {
            Arrays.fill(seat, NONE);
            Arrays.fill(planned, NONE);
        }

        void copyFrom(Sheet other) {
            school = other.school;
            sayings = other.sayings;
            System.arraycopy(other.first, 0, first, 0, MOST_SAYINGS);
            System.arraycopy(other.second, 0, second, 0, MOST_SAYINGS);
            System.arraycopy(other.master, 0, master, 0, MOST_SAYINGS);
            System.arraycopy(other.seat, 0, seat, 0, MOST_PUPILS);
            System.arraycopy(other.planned, 0, planned, 0, MOST_PUPILS);
        }

        /** The oldest goes where there is no room: a SEASON keeps the last ones; others look for room first. */
        void addSaying(int better, int other, int by) {
            if (sayings >= MOST_SAYINGS) {
                sayings = MOST_SAYINGS - 1;
                System.arraycopy(first, 1, first, 0, sayings);
                System.arraycopy(second, 1, second, 0, sayings);
                System.arraycopy(master, 1, master, 0, sayings);
            }
            first[sayings] = better;
            second[sayings] = other;
            master[sayings] = by;
            sayings++;
        }

        boolean isSaid(int better, int other, int by) {
            for (int i = 0; i < sayings; i++) {
                if (first[i] == better && second[i] == other && master[i] == by) {
                    return true;
                }
            }
            return false;
        }

        int sitterOn(int place) {
            for (int p = 0; p < school.pupils; p++) {
                if (seat[p] == place) {
                    return p;
                }
            }
            return NONE;
        }

        int placedOf(int[] seats) {
            int placed = 0;
            for (int p = 0; p < school.pupils; p++) {
                if (seats[p] != NONE) {
                    placed++;
                }
            }
            return placed;
        }

        /** One who sits as PLANNED is a ring of one. */
        int ringsOfSeats() {
            int rings = 0;
            for (int p = 0; p < school.pupils; p++) {
                if (leadsRing(p)) {
                    rings++;
                }
            }
            return rings;
        }

        /** Each ring is counted at the least number in it. */
        private boolean leadsRing(int pupil) {
            int at = pupil;
            for (int step = 0; step < school.pupils; step++) {
                at = sitterOn(planned[at]);
                if (at == pupil) {
                    return true;
                }
                if (at < pupil) {
                    return false;
                }
            }
            return false;
        }

        int tallerAhead(int pupil) {
            int taller = 0;
            for (int other = 0; other < school.pupils; other++) {
                boolean isTaller = seat[other] != NONE && school.tall[other] > school.tall[pupil];
                if (isTaller && sitsBefore(seat[other], seat[pupil])) {
                    taller++;
                }
            }
            return taller;
        }

        private boolean sitsBefore(int ahead, int behind) {
            return ahead % 2 == behind % 2 && school.benchRow[ahead / 2] < school.benchRow[behind / 2];
        }
    }

    /** The tokens of a text, one after the other. */
    private static final class Tokens {
        private byte[] signs = new byte[0];
        private int size;
        private int end;
        int place;
        int kind;
        int number;
        long name;
        Word word;

        void open(byte[] text, int length) {
            signs = text;
            size = Math.min(length, text.length);
            end = 0;
            step();
        }

        void step() {
            word = null;
            while (end < size && (signs[end] == 10 || signs[end] == 32)) {
                end++;
            }
            place = end;
            if (place >= size) {
                kind = END;
            } else if (isLetter(signs[place])) {
                takeWord();
            } else if (isDigit(signs[place])) {
                takeNumber();
            } else {
                end = place + 1;
                kind = isSign(signs[place]) ? signs[place] : NO_TOKEN;
            }
        }

        boolean isName() {
            return kind == WORD && (word == null || !word.reserved);
        }

        private void takeWord() {
            name = 0;
            while (end < size && isLetter(signs[end])) {
                name = name * LETTER_ROOM + (signs[end] - LETTER_BASE);
                end++;
            }
            kind = end - place <= MOST_LETTERS ? WORD : NO_TOKEN;
            for (int i = 0; i < WORDS.length && kind == WORD && word == null; i++) {
                if (WORDS[i].code == name) {
                    word = WORDS[i];
                }
            }
        }

        private void takeNumber() {
            number = 0;
            while (end < size && isDigit(signs[end])) {
                number = number * 10 + (signs[end] - '0');
                end++;
            }
            kind = end - place <= MOST_DIGITS ? NUMBER : NO_TOKEN;
        }

        private static boolean isLetter(int sign) {
            return sign >= 'a' && sign <= 'z';
        }

        private static boolean isDigit(int sign) {
            return sign >= '0' && sign <= '9';
        }

        private static boolean isSign(int sign) {
            switch (sign) {
                case '(':
                case ')':
                case '<':
                case '=':
                case '+':
                case '-':
                case '*':
                case ';':
                    return true;
                default:
                    return false;
            }
        }
    }

    /** Reads a SCHOOL into a draft, so that all stays as it is where there is a FAULT. */
    private static final class Reader {
        private static final int TEST_LEVEL = 1;
        private static final int LAST_LEVEL = 3;

        final Sheet draft = new Sheet();
        private final Tokens tokens = new Tokens();
        private final long[] names = new long[MOST_PUPILS];
        // Whose liking each one has told, as bits.
        private final int[] likingTold = new int[MOST_PUPILS];
        private final int[] steps = new int[MOST_SIGNS];
        private int stepCount;
        private boolean slipTold;
        private boolean wishTold;
        private int number;
        private int who;
        private int fault;

        int read(byte[] text, int length) {
            draft.school = new School();
            draft.sayings = 0;
            Arrays.fill(likingTold, 0);
            slipTold = false;
            wishTold = false;
            fault = 0;
            tokens.open(text, length);
            boolean good = true;
            for (int i = 0; i <= MOST_SIGNS && good && tokens.kind != END; i++) {
                good = readLine();
            }
            return fault;
        }

        private boolean readLine() {
            Word word = tokens.word;
            if (word == Word.PUPIL_LINE) {
                return readPupil();
            }
            if (word == Word.BENCH_LINE) {
                return readBench();
            }
            if (word == Word.SAY_LINE) {
                return readSaying();
            }
            if (word == Word.LIKE_LINE) {
                return readLiking();
            }
            if (word == Word.SLIP_LINE) {
                return readSlip();
            }
            return word == Word.WISH_LINE ? readWish() : wrong(CANNOT_STAND);
        }

        private boolean readPupil() {
            School school = draft.school;
            int pupil = school.pupils;
            if (pupil >= MOST_PUPILS) {
                return wrong(TOO_MANY);
            }
            tokens.step();
            if (!tokens.isName()) {
                return wrong(CANNOT_STAND);
            }
            if (pupilNamed(tokens.name) != NONE) {
                return wrong(TOLD_ALREADY);
            }
            names[pupil] = tokens.name;
            tokens.step();
            if (tokens.word == null || tokens.word.kind == NONE) {
                return wrong(CANNOT_STAND);
            }
            school.kind[pupil] = tokens.word.kind;
            tokens.step();
            if (!takeWord(Word.TALL_FACT) || !takeNumber(99)) {
                return false;
            }
            school.tall[pupil] = number;
            school.pupils++;
            return takeSign(';');
        }

        private boolean readBench() {
            School school = draft.school;
            if (school.benches >= MOST_BENCHES) {
                return wrong(TOO_MANY);
            }
            tokens.step();
            if (!takeWord(Word.ROW_WORD) || !takeNumber(9)) {
                return false;
            }
            school.benchRow[school.benches] = number;
            school.benches++;
            return takeWord(Word.WORTH_WORD) && takeNumber(99) && takeSign(';');
        }

        private boolean readSaying() {
            if (draft.sayings >= MOST_SAYINGS) {
                return wrong(TOO_MANY);
            }
            tokens.step();
            if (!takePupil(NONE)) {
                return false;
            }
            int better = who;
            if (!takePupil(better)) {
                return false;
            }
            int other = who;
            if (!takeNumber(MASTERS - 1)) {
                return false;
            }
            draft.addSaying(better, other, number);
            return takeSign(';');
        }

        private boolean readLiking() {
            tokens.step();
            if (!takePupil(NONE)) {
                return false;
            }
            int one = who;
            int second = tokens.isName() ? pupilNamed(tokens.name) : NONE;
            if (second != NONE && (likingTold[one] >> second & 1) != 0) {
                return wrong(TOLD_ALREADY);
            }
            if (!takePupil(one)) {
                return false;
            }
            likingTold[one] |= 1 << second;
            if (!takeNumber(99)) {
                return false;
            }
            draft.school.liking[one * MOST_PUPILS + second] = number;
            return takeSign(';');
        }

        private boolean readSlip() {
            if (slipTold) {
                return wrong(TOLD_ALREADY);
            }
            slipTold = true;
            tokens.step();
            if (!takeNumber(3)) {
                return false;
            }
            draft.school.slip = number;
            return takeSign(';');
        }

        private boolean readWish() {
            if (wishTold) {
                return wrong(TOLD_ALREADY);
            }
            wishTold = true;
            stepCount = 0;
            tokens.step();
            if (!readLevel(0, 0) || !takeSign(';')) {
                return false;
            }
            draft.school.wish = Arrays.copyOf(steps, stepCount);
            return true;
        }

        /** One level of E, the loosest first: and, or; then < and =, which join once only; then + and -; then *. */
        private boolean readLevel(int level, int depth) {
            int most = level == TEST_LEVEL ? 1 : MOST_SIGNS;
            boolean good = readOperand(level, depth);
            for (int i = 0; i < most && good; i++) {
                int step = joinerOf(level);
                if (step == NO_STEP) {
                    return true;
                }
                tokens.step();
                good = readOperand(level, depth) && putStep(step);
            }
            return good;
        }

        /** What a level joins: the next tighter level, a PART behind the last one. */
        private boolean readOperand(int level, int depth) {
            return level < LAST_LEVEL ? readLevel(level + 1, depth) : readPart(depth);
        }

        /** What the token joins on a level; NO_STEP: nothing. */
        private int joinerOf(int level) {
            switch (level) {
                case 0:
                    return tokens.word == Word.AND_WORD ? AND : tokens.word == Word.OR_WORD ? OR : NO_STEP;
                case TEST_LEVEL:
                    return tokens.kind == '<' ? LESS : tokens.kind == '=' ? EQUAL : NO_STEP;
                case 2:
                    return tokens.kind == '+' ? PLUS : tokens.kind == '-' ? MINUS : NO_STEP;
                default:
                    return tokens.kind == '*' ? TIMES : NO_STEP;
            }
        }

        private boolean readPart(int depth) {
            int fact = tokens.word == null ? NO_STEP : tokens.word.fact;
            boolean plain = tokens.kind == NUMBER || fact != NO_STEP;
            boolean negated = tokens.word == Word.NOT_WORD;
            if (!plain && !negated && tokens.kind != '(') {
                return wrong(CANNOT_STAND);
            }
            if (depth >= MOST_NESTED) {
                return wrong(TOO_MANY);
            }
            int step = tokens.kind == NUMBER ? tokens.number : fact;
            tokens.step();
            if (plain) {
                return putStep(step);
            }
            if (negated) {
                return readOperand(LAST_LEVEL, depth + 1) && putStep(NOT);
            }
            return readLevel(0, depth + 1) && takeSign(')');
        }

        /** Each step has a token of its own, so that there is always room: a text is no longer than the steps. */
        private boolean putStep(int step) {
            if (stepCount < steps.length) {
                steps[stepCount] = step;
                stepCount++;
            }
            return true;
        }

        private boolean takeWord(Word word) {
            if (tokens.word != word) {
                return wrong(CANNOT_STAND);
            }
            tokens.step();
            return true;
        }

        private boolean takeSign(int sign) {
            if (tokens.kind != sign) {
                return wrong(CANNOT_STAND);
            }
            tokens.step();
            return true;
        }

        private boolean takeNumber(int most) {
            if (tokens.kind != NUMBER) {
                return wrong(CANNOT_STAND);
            }
            if (tokens.number > most) {
                return wrong(NOT_AS_TOLD);
            }
            number = tokens.number;
            tokens.step();
            return true;
        }

        private boolean takePupil(int first) {
            if (!tokens.isName()) {
                return wrong(CANNOT_STAND);
            }
            who = pupilNamed(tokens.name);
            if (who == NONE) {
                return wrong(UNKNOWN_NAME);
            }
            if (who == first) {
                return wrong(TOLD_ALREADY);
            }
            tokens.step();
            return true;
        }

        private int pupilNamed(long name) {
            for (int p = 0; p < draft.school.pupils; p++) {
                if (names[p] == name) {
                    return p;
                }
            }
            return NONE;
        }

        private boolean wrong(int kind) {
            fault = kind + 16 * tokens.place;
            return false;
        }
    }

    /** Who surely stands above whom; PUPILS are bits. */
    private static final class Ladder {
        private final int[] saidAbove = new int[MOST_PUPILS];
        private final int[] above = new int[MOST_PUPILS];
        private final int[] line = new int[MOST_PUPILS];
        private int pupils;
        private int everyone;
        private boolean ready;
        boolean fits;

        void forget() {
            ready = false;
        }

        void study(Sheet sheet) {
            if (ready) {
                return;
            }
            hear(sheet);
            fits = peel(everyone) != NO_ORDER;
            if (fits) {
                climb();
            }
            ready = true;
        }

        void hear(Sheet sheet) {
            pupils = sheet.school.pupils;
            everyone = sheet.school.everyone();
            Arrays.fill(saidAbove, 0);
            for (int i = 0; i < sheet.sayings; i++) {
                saidAbove[sheet.second[i]] |= 1 << sheet.first[i];
            }
        }

        boolean oneOrderFits() {
            return peel(everyone) == ONE_ORDER;
        }

        boolean isAbove(int one, int other) {
            return fits && (above[other] >> one & 1) != 0;
        }

        int leastPlace(int pupil) {
            return Integer.bitCount(above[pupil]);
        }

        int greatestPlace(int pupil) {
            int place = pupils - 1;
            for (int other = 0; other < pupils; other++) {
                if (isAbove(pupil, other)) {
                    place--;
                }
            }
            return place;
        }

        int untangling() {
            int helped = 0;
            for (int p = 0; p < pupils; p++) {
                if (peel(everyone & ~(1 << p)) != NO_ORDER) {
                    helped |= 1 << p;
                }
            }
            return helped;
        }

        /** In how many places of the others' one ORDER a PUPIL may stand; 0 where theirs is not known. */
        int placesFor(int pupil) {
            if (peel(everyone & ~(1 << pupil)) != ONE_ORDER) {
                return 0;
            }
            int others = pupils - 1;
            int least = 0;
            int greatest = others;
            for (int place = 0; place < others; place++) {
                int other = line[place];
                if ((saidAbove[pupil] >> other & 1) != 0) {
                    least = place + 1;
                }
                if ((saidAbove[other] >> pupil & 1) != 0) {
                    greatest = Math.min(greatest, place);
                }
            }
            return Math.max(0, greatest - least + 1);
        }

        /** Takes the best away again and again: one ORDER alone FITS if there never are two to choose from. */
        private int peel(int set) {
            int left = set;
            int answer = ONE_ORDER;
            for (int place = 0; place < MOST_PUPILS && left != 0; place++) {
                int best = NONE;
                for (int p = pupils - 1; p >= 0; p--) {
                    if ((left >> p & 1) != 0 && (saidAbove[p] & left) == 0) {
                        answer = best == NONE ? answer : MORE_ORDERS;
                        best = p;
                    }
                }
                if (best == NONE) {
                    return NO_ORDER;
                }
                line[place] = best;
                left &= ~(1 << best);
            }
            return answer;
        }

        /** Along a line that FITS all who are above one are known before him. */
        private void climb() {
            for (int place = 0; place < pupils; place++) {
                int pupil = line[place];
                int all = saidAbove[pupil];
                for (int other = 0; other < pupils; other++) {
                    if ((saidAbove[pupil] >> other & 1) != 0) {
                        all |= above[other];
                    }
                }
                above[pupil] = all;
            }
        }
    }

    /**
     * Weighs all ORDERS at once, by sets of those who stand ahead: an ORDER weighs as much as the product of
     * what its SAYINGS do, which is 1 or 0 where only those that FIT count.
     */
    private static final class Tally {
        private final boolean slips;
        private final long[] factor = new long[MOST_PUPILS * MOST_PUPILS];
        private final int[] partners = new int[MOST_PUPILS];
        private final long[] front = new long[SETS];
        private final long[] back = new long[SETS];
        private final long[] ahead = new long[MOST_PUPILS * MOST_PUPILS];
        private int pupils;
        private int everyone;
        private boolean weighed;
        private boolean compared;

        Tally(boolean slips) {
            this.slips = slips;
        }

        void forget() {
            weighed = false;
            compared = false;
        }

        void weigh(Sheet sheet) {
            if (weighed) {
                return;
            }
            pupils = sheet.school.pupils;
            everyone = sheet.school.everyone();
            setFactors(sheet);
            Arrays.fill(front, 0L);
            front[0] = 1;
            for (int set = 0; set < everyone; set++) {
                for (int p = 0; p < pupils && front[set] != 0; p++) {
                    if ((set >> p & 1) == 0) {
                        front[set | 1 << p] += front[set] * factorBehind(set, p);
                    }
                }
            }
            weighed = true;
            compared = false;
        }

        long all() {
            return front[everyone];
        }

        void compare() {
            if (compared) {
                return;
            }
            Arrays.fill(ahead, 0L);
            back[everyone] = 1;
            for (int set = everyone - 1; set >= 0; set--) {
                back[set] = 0;
                for (int p = 0; p < pupils && front[set] != 0; p++) {
                    if ((set >> p & 1) == 0) {
                        long weight = factorBehind(set, p) * back[set | 1 << p];
                        back[set] += weight;
                        addAhead(set, p, front[set] * weight);
                    }
                }
            }
            compared = true;
        }

        long aheadOf(int one, int other) {
            return ahead[one * MOST_PUPILS + other];
        }

        /** What 0: the lesser number, 1: the other, 2: how many are left at most. */
        int bestQuestion(int what) {
            int one = NONE;
            int other = NONE;
            long fewest = all();
            for (int a = 0; a < pupils; a++) {
                for (int b = a + 1; b < pupils; b++) {
                    long left = Math.max(aheadOf(a, b), aheadOf(b, a));
                    if (left < fewest) {
                        one = a;
                        other = b;
                        fewest = left;
                    }
                }
            }
            if (what == 2) {
                return (int) fewest;
            }
            return what == 0 ? one : other;
        }

        private void setFactors(Sheet sheet) {
            Arrays.fill(factor, 1L);
            Arrays.fill(partners, 0);
            for (int i = 0; i < sheet.sayings; i++) {
                int better = sheet.first[i];
                int other = sheet.second[i];
                int slip = sheet.school.slipOf(better);
                factor[better * MOST_PUPILS + other] *= slips ? SLIP_PARTS - slip : 1;
                factor[other * MOST_PUPILS + better] *= slips ? slip : 0;
                partners[better] |= 1 << other;
                partners[other] |= 1 << better;
            }
        }

        /** What all SAYINGS of a PUPIL and those ahead of him do. */
        private long factorBehind(int set, int pupil) {
            int asked = set & partners[pupil];
            long product = 1;
            for (int other = 0; other < pupils && asked >> other != 0; other++) {
                if ((asked >> other & 1) != 0) {
                    product *= factor[other * MOST_PUPILS + pupil];
                }
            }
            return product;
        }

        private void addAhead(int set, int pupil, long weight) {
            for (int other = 0; other < pupils && weight != 0; other++) {
                if ((set >> other & 1) != 0) {
                    ahead[other * MOST_PUPILS + pupil] += weight;
                }
            }
        }
    }

    /** The fewest BROKEN SAYINGS and the first ORDER that breaks no more. */
    private static final class Breaks {
        // Forty SAYINGS at most: the counts of ten PUPILS have room side by side in one long.
        private static final int BITS = 6;
        private static final int FIELD = 63;

        private final long[] against = new long[MOST_PUPILS];
        private final long[] broken = new long[SETS];
        private final int[] fewestBehind = new int[SETS];
        final int[] line = new int[MOST_PUPILS];
        private int pupils;
        private int everyone;
        private boolean ready;
        private int studied;

        void forget() {
            ready = false;
        }

        void study(Sheet sheet, int master) {
            if (ready && studied == master) {
                return;
            }
            pupils = sheet.school.pupils;
            everyone = sheet.school.everyone();
            hear(sheet, master);
            broken[0] = 0;
            for (int set = 1; set <= everyone; set++) {
                broken[set] = broken[set & (set - 1)] + against[Integer.numberOfTrailingZeros(set)];
            }
            fewestBehind[everyone] = 0;
            for (int set = everyone - 1; set >= 0; set--) {
                fewestBehind[set] = withBehind(set, bestBehind(set));
            }
            int set = 0;
            for (int place = 0; place < pupils; place++) {
                line[place] = bestBehind(set);
                set |= 1 << line[place];
            }
            ready = true;
            studied = master;
        }

        int fewest() {
            return fewestBehind[0];
        }

        private void hear(Sheet sheet, int master) {
            Arrays.fill(against, 0L);
            for (int i = 0; i < sheet.sayings; i++) {
                if (master == NONE || sheet.master[i] == master) {
                    against[sheet.second[i]] += 1L << BITS * sheet.first[i];
                }
            }
        }

        /** The first of those who break the fewest if they stand right behind a set. */
        private int bestBehind(int set) {
            int best = 0;
            int fewest = MOST_SAYINGS + 1;
            for (int p = 0; p < pupils; p++) {
                if ((set >> p & 1) == 0) {
                    int breaking = withBehind(set, p);
                    if (breaking < fewest) {
                        fewest = breaking;
                        best = p;
                    }
                }
            }
            return best;
        }

        private int withBehind(int set, int pupil) {
            return (int) (broken[set] >> BITS * pupil & FIELD) + fewestBehind[set | 1 << pupil];
        }
    }

    /** How many SAYINGS are needed; the 120 ORDERS of five at most are bits of two longs. */
    private static final class Asking {
        private static final int PAIRS = MOST_ASKED * (MOST_ASKED - 1) / 2;

        private final long[] low = new long[MOST_ASKED * MOST_ASKED];
        private final long[] high = new long[MOST_ASKED * MOST_ASKED];
        private final int[] place = new int[MOST_ASKED];
        private int pupils;

        int fewestAsks(Sheet sheet) {
            pupils = Math.min(sheet.school.pupils, MOST_ASKED);
            int all = layOrders();
            long lowLeft = firstBits(Math.min(all, 64));
            long highLeft = firstBits(Math.max(all - 64, 0));
            for (int i = 0; i < sheet.sayings; i++) {
                int pair = sheet.first[i] * MOST_ASKED + sheet.second[i];
                lowLeft &= low[pair];
                highLeft &= high[pair];
            }
            if ((lowLeft | highLeft) == 0) {
                return NONE;
            }
            int asks = 0;
            while (asks < PAIRS && !suffice(lowLeft, highLeft, asks)) {
                asks++;
            }
            return asks;
        }

        private int layOrders() {
            Arrays.fill(low, 0L);
            Arrays.fill(high, 0L);
            int all = 1;
            for (int p = 2; p <= pupils; p++) {
                all *= p;
            }
            for (int order = 0; order < all; order++) {
                placeBy(order);
                for (int a = 0; a < pupils; a++) {
                    for (int b = 0; b < pupils; b++) {
                        if (place[a] < place[b]) {
                            noteAhead(a * MOST_ASKED + b, order);
                        }
                    }
                }
            }
            return all;
        }

        /** Each PUPIL is put among those of lesser numbers, where the ORDER's number says. */
        private void placeBy(int order) {
            int left = order;
            for (int p = 0; p < pupils; p++) {
                int at = left % (p + 1);
                left /= p + 1;
                for (int q = 0; q < p; q++) {
                    if (place[q] >= at) {
                        place[q]++;
                    }
                }
                place[p] = at;
            }
        }

        private void noteAhead(int pair, int order) {
            if (order < 64) {
                low[pair] |= 1L << order;
            } else {
                high[pair] |= 1L << order - 64;
            }
        }

        private boolean suffice(long lowLeft, long highLeft, int asks) {
            int left = Long.bitCount(lowLeft) + Long.bitCount(highLeft);
            if (left <= 1) {
                return true;
            }
            if (asks <= 0 || left > 1 << asks) {
                return false;
            }
            for (int a = 0; a < pupils; a++) {
                for (int b = a + 1; b < pupils; b++) {
                    if (sufficeBehind(a * MOST_ASKED + b, lowLeft, highLeft, asks - 1)) {
                        return true;
                    }
                }
            }
            return false;
        }

        /** Whether so many more suffice once two are asked about, whatever is answered. */
        private boolean sufficeBehind(int pair, long lowLeft, long highLeft, int asks) {
            long lowYes = lowLeft & low[pair];
            long highYes = highLeft & high[pair];
            long lowNo = lowLeft & ~lowYes;
            long highNo = highLeft & ~highYes;
            int yes = Long.bitCount(lowYes) + Long.bitCount(highYes);
            int no = Long.bitCount(lowNo) + Long.bitCount(highNo);
            // What is known already tells nothing, and so many answers tell so many ORDERS apart at most.
            if (yes == 0 || no == 0 || Math.max(yes, no) > 1 << asks) {
                return false;
            }
            return suffice(lowYes, highYes, asks) && suffice(lowNo, highNo, asks);
        }

        private static long firstBits(int bits) {
            return bits >= 64 ? -1L : (1L << bits) - 1;
        }
    }

    /** What one wishes to sit by another, and the PAIRS of all that are at REST by it, in their order. */
    private static final class Wishing {
        // Four steps wait at most in each of the nested parts.
        private final int[] stack = new int[8 * MOST_NESTED];
        private final int[] wish = new int[MOST_PAIRED * MOST_PAIRED];
        private final int[] mate = new int[MOST_PAIRED];
        // By whom each one sits, four bits each.
        private final long[] kept = new long[MOST_PAIRINGS];
        private int pupils;
        private boolean ready;
        int found;

        void forget() {
            ready = false;
        }

        void study(School school, Ladder ladder) {
            if (ready) {
                return;
            }
            pupils = Math.min(school.pupils, MOST_PAIRED);
            for (int one = 0; one < pupils; one++) {
                for (int other = 0; other < pupils; other++) {
                    wish[one * MOST_PAIRED + other] = one == other ? 0 : wishOf(school, ladder, one, other);
                }
            }
            Arrays.fill(mate, NONE);
            found = 0;
            pairFrom(0, 0);
            ready = true;
        }

        int wishOf(School school, Ladder ladder, int one, int other) {
            int wish = Math.max(0, Math.min(GREATEST_WISH, lawOf(school, ladder, one, other)));
            boolean isAbove = ladder.isAbove(other, one);
            int kind = school.kind[one];
            if (kind == PROUD && isAbove) {
                return 0;
            }
            if (kind == SHY && school.likingOf(one, other) > 0) {
                wish += 10;
            }
            if (kind == RIVAL && isAbove) {
                wish += 20;
            }
            return Math.min(GREATEST_WISH, wish);
        }

        private int lawOf(School school, Ladder ladder, int one, int other) {
            int top = 0;
            for (int i = 0; i < school.wish.length; i++) {
                int step = school.wish[i];
                if (step > NOT && top < stack.length) {
                    stack[top] = step >= 0 ? step : factOf(school, ladder, one, other, step);
                    top++;
                } else if (step == NOT && top >= 1) {
                    stack[top - 1] = bit(stack[top - 1] == 0);
                } else if (step < NOT && top >= 2) {
                    top--;
                    stack[top - 1] = joined(step, stack[top - 1], stack[top]);
                }
            }
            return stack[0];
        }

        private static int factOf(School school, Ladder ladder, int one, int other, int fact) {
            switch (fact) {
                case LIKES:
                    return school.likingOf(one, other);
                case TALL:
                    return school.tall[one];
                case OTHER:
                    return school.tall[other];
                case ABOVE:
                    return bit(ladder.isAbove(other, one));
                default:
                    return bit(ladder.isAbove(one, other));
            }
        }

        private static int joined(int step, int a, int b) {
            switch (step) {
                case AND:
                    return bit(a != 0 && b != 0);
                case OR:
                    return bit(a != 0 || b != 0);
                case LESS:
                    return bit(a < b);
                case EQUAL:
                    return bit(a == b);
                case PLUS:
                    return a + b;
                case MINUS:
                    return a - b;
                default:
                    return a * b;
            }
        }

        private static int bit(boolean so) {
            return so ? 1 : 0;
        }

        int mateIn(int i, int pupil) {
            return (int) (kept[i] >> 4 * pupil & 15L);
        }

        private void pairFrom(int least, int depth) {
            int one = least;
            while (one < pupils && mate[one] != NONE) {
                one++;
            }
            if (one >= pupils) {
                keepIfAtRest();
                return;
            }
            if (depth > MOST_PAIRED / 2) {
                return;
            }
            for (int other = one + 1; other < pupils; other++) {
                if (mate[other] == NONE) {
                    pairUp(one, other, depth + 1);
                }
            }
        }

        private void pairUp(int one, int other, int depth) {
            mate[one] = other;
            mate[other] = one;
            pairFrom(one + 1, depth);
            mate[other] = NONE;
            mate[one] = NONE;
        }

        private void keepIfAtRest() {
            long all = 0;
            for (int one = 0; one < pupils; one++) {
                for (int other = one + 1; other < pupils; other++) {
                    if (wouldRather(one, other) && wouldRather(other, one)) {
                        return;
                    }
                }
                all |= (long) mate[one] << 4 * one;
            }
            if (found < kept.length) {
                kept[found] = all;
                found++;
            }
        }

        /** A pair is never greater than itself, so that it needs no question of its own. */
        private boolean wouldRather(int one, int other) {
            return wish[one * MOST_PAIRED + other] > wish[one * MOST_PAIRED + mate[one]];
        }
    }

    /** Days drawn by a SEED, on SAYINGS of its own. */
    private static final class Season {
        final Sheet trial = new Sheet();
        private final Ladder ladder = new Ladder();
        private final int[] place = new int[MOST_PUPILS];
        private long drawn;

        void open(Sheet from, int[] line, int seed) {
            trial.copyFrom(from);
            for (int i = 0; i < from.school.pupils; i++) {
                place[line[i]] = i;
            }
            drawn = seed;
        }

        int daysUntilKnown() {
            for (int day = 0; day <= SEASON_DAYS; day++) {
                ladder.hear(trial);
                if (ladder.oneOrderFits()) {
                    return day;
                }
                passDays(1);
            }
            return NONE;
        }

        void passDays(int days) {
            int pupils = trial.school.pupils;
            for (int day = 0; day < days; day++) {
                int one = draw(pupils);
                int other = draw(pupils - 1);
                if (other >= one) {
                    other++;
                }
                boolean slipped = draw(SLIP_PARTS) < trial.school.slip;
                boolean oneIsBetter = place[one] < place[other] != slipped;
                trial.addSaying(oneIsBetter ? one : other, oneIsBetter ? other : one, 0);
            }
        }

        private int draw(int below) {
            drawn = (drawn * 1103515245L + 12345L) % 2147483648L;
            return below > 0 ? (int) (drawn / 65536L % below) : 0;
        }
    }
}
