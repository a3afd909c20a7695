/** The edges of promises 1 (a new object), 2 (feed) and 3 (school), sentence by sentence. */
final class TextEdges {
    private static final String AB = "pupil a plain tall 1;pupil b plain tall 1;";
    private static final int N = AB.length();
    private static final String[] KINDS = {"plain", "proud", "shy", "helped", "rival"};
    private static final String[] KEPT = {"pupil", "tall", "bench", "row", "worth", "say", "like", "slip", "wish",
        "plain", "proud", "shy", "helped", "rival", "not", "and", "or"};
    private static final String ALL = "pupil a proud tall 7;pupil b shy tall 8;bench row 1 worth 1;bench row 2 worth 1;"
            + "slip 2;say a b 1;like b a 5;wish likes+tall;";

    private TextEdges() {
    }

    static void all() {
        nobody();
        apart();
        manyCalls();
        signs();
        order();
        thousand();
        words();
        numbers();
        blanks();
        otherSigns();
        tapeIsTaken();
        lines();
        pupilLines();
        benchLines();
        sayLines();
        likeLines();
        slipAndWish();
        names();
        ends();
        leastKind();
        grammar();
        nesting();
        faultLeavesAll();
        schoolFromThenOn();
    }

    // ---- promise 1

    private static void nobody() {
        Check.edge(1, "Nobody");
        BenchOrder x = new BenchOrder();
        for (int what = 0; what <= 6; what++) {
            Check.due("count(" + what + ")", x.count(what), 0);
        }
        for (int p = -1; p <= 1; p++) {
            for (int what = 0; what <= 3; what++) {
                Check.due("pupil", x.pupil(p, what), -1);
            }
            Check.due("span", x.span(p, 0), -1);
            Check.due("row", x.row(p), -1);
            Check.due("newOne", x.newOne(p), -1);
            Check.due("sit", x.sit(p, -1) || x.sit(p, 0), false);
            Check.due("plan", x.plan(p, -1) || x.plan(p, 0), false);
            Check.due("hidden", Check.hidden(x, p), Check.THROWN);
            Check.due("rest", x.rest(0, p), -1);
        }
        Check.due("say", x.say(0, 1, 0), -1);
        Check.due("unsay", x.unsay(), false);
        Check.due("saying", x.saying(0, 0), -1);
        Check.due("orders", x.orders(), 1);
        Check.due("sure", x.sure(0, 1), -1);
        Check.due("dropped", x.dropped(-1), 0);
        Check.due("dropped", x.dropped(0), 0);
        Check.due("dropped", x.dropped(1), 0);
        Check.due("helped", x.helped(), 0);
        Check.due("unlike", x.unlike(), 0);
        Check.due("chance", x.chance(0, 1, 0), -1);
        Check.due("next", x.next(0), -1);
        Check.due("needed", x.needed(), 0);
        Check.due("changes", x.changes(), 0);
        Check.due("wishes", x.wishes(0, 1), -1);
        Check.due("rests", x.rests(), -1);
        Check.due("season", x.season(0, 0), -1);
        for (int m = 0; m < 4; m++) {
            Check.due("mark " + m, x.mark(m, true), false);
        }
        Check.due("NONE", BenchOrder.NONE, -1);
    }

    private static void apart() {
        Check.edge(1, "Nobody");
        BenchOrder x = Check.of(ALL);
        x.sit(0, 1);
        x.mark(2, false);
        Check.put(x, "slip");
        String before = Check.state(x);
        BenchOrder y = new BenchOrder();
        Check.due("nothing is on another object's mark", y.mark(2, true), false);
        Check.due("nobody is told to another object", y.count(0), 0);
        Check.due("nothing is on another object's tape", y.count(6), 0);
        Check.read(y, Check.pupils(3) + "wish 9;");
        y.say(1, 0, 0);
        Check.same("another object's calls", Check.state(x), before);
    }

    private static void manyCalls() {
        Check.edge(1, "An object is used for at most 512 calls");
        BenchOrder x = new BenchOrder();
        for (int call = 0; call < 512; call += 2) {
            int slip = call / 2 % 4;
            Check.due("feed, call " + call, x.feed(0x736C69702030203BL + ((long) slip << 16), 0, 0), 8);
            Check.due("school, call " + (call + 1), x.school(), 0);
        }
        Check.due("the last school", x.count(3), 3);
        BenchOrder y = Check.of(Check.pupils(10) + "slip 1;say j a 0;");
        String first = Check.state(Check.of(Check.pupils(10) + "slip 1;say j a 0;"));
        for (int call = 0; call < 480; call += 4) {
            y.say(9, 8, 0);
            y.season(call, 1);
            y.chance(0, 1, 0);
            y.unsay();
        }
        Check.same("many calls", Check.state(y), first);
    }

    // ---- promise 2

    private static void signs() {
        Check.edge(2, "others than 10 and 32 .. 126 .. are left out");
        for (int sign = 0; sign < 256; sign++) {
            int due = sign == 10 || sign >= 32 && sign <= 126 ? 1 : 0;
            for (int shift = 0; shift < 64; shift += 8) {
                Check.due("a's " + sign, new BenchOrder().feed((long) sign << shift, 0, 0), due);
                Check.due("b's " + sign, new BenchOrder().feed(0, (long) sign << shift, 0), due);
                Check.due("c's " + sign, new BenchOrder().feed(0, 0, (long) sign << shift), due);
            }
        }
        Check.due("nothing", new BenchOrder().feed(0, 0, 0), 0);
        Check.due("255 all over", new BenchOrder().feed(-1L, -1L, -1L), 0);
        Check.due("128 all over", new BenchOrder().feed(Long.MIN_VALUE, Long.MIN_VALUE, Long.MIN_VALUE), 0);
        BenchOrder x = new BenchOrder();
        x.feed(0x7300FF6C69092070L, 0x7F31001F800B3B00L, 0);
        Check.due("s l i _ p 1 ;, so that sli is none such", x.school(), 1);
        x.feed(0x73006C0069090070L, 0x7F20001F320B3B00L, 0);
        Check.due("s l i p _ 2 ; with others between", x.school(), 0);
        Check.due("slip", x.count(3), 2);
    }

    private static void order() {
        Check.edge(2, "the bytes of a, b, c, of each the highest first");
        BenchOrder x = new BenchOrder();
        Check.due("up to 24 signs", x.feed(0x736C697020333B0AL, 0x62656E636820726FL, 0x7720303020776F72L), 24);
        Check.edge(2, "come behind the TAPE");
        Check.due("behind the 24", x.feed(0x7468203130203B00L, 0, 0), 31);
        Check.due("count", x.count(6), 31);
        Check.due("slip 3;/bench row 00 worth 10 ;", x.school(), 0);
        Check.due("slip", x.count(3), 3);
        Check.due("benches", x.count(1), 1);
        Check.edge(2, "how many there are");
        Check.due("on the tape, not in this call", x.feed(0x2020202020202020L, 0, 0), 8);
        Check.due("nothing new", x.feed(0, 0, 0), 8);
        Check.due("one new", x.feed(0, 0x0A, 0), 9);
    }

    private static void thousand() {
        Check.edge(2, "what is beyond 1,000, are left out");
        BenchOrder x = new BenchOrder();
        Check.put(x, " ".repeat(993) + "slip 3;");
        Check.due("1,000", x.count(6), 1000);
        Check.due("nothing more comes in", x.feed(0x2121212121212121L, 0, 0), 1000);
        Check.due("the 1,000th sign is there", x.school(), 0);
        Check.due("slip", x.count(3), 3);
        for (String text : new String[] {"slip", "slip 2", "slip 2 ", "wish 2+"}) {
            Check.put(x, " ".repeat(1000 - text.length()) + text);
            Check.due("the end at 1,000", x.school(), 1 + 16 * 1000);
        }
        Check.put(x, " ".repeat(994) + "slip 2;");
        Check.due("1,000", x.count(6), 1000);
        Check.due("the 1,001st is not", x.school(), 1 + 16 * 1000);
        Check.due("slip is as it was", x.count(3), 3);
        Check.put(x, " ".repeat(984));
        Check.due("the first 16 of 24", x.feed(0x2020202020202020L, 0x20736C697020313BL, 0x736C697020313B20L), 1000);
        Check.due("slip 1; but once", x.school(), 0);
        Check.due("slip", x.count(3), 1);
        Check.put(x, " ".repeat(999));
        Check.due("others than signs take no room", x.feed(0x0000FF7F00000000L, 0x21L, 0x3F3F3F3F3F3F3F3FL), 1000);
        Check.due("the one that came in", x.school(), 1 + 16 * 999);
        Check.due("room again behind school()", x.feed(0x20L, 0, 0), 1);
    }

    // ---- promise 3: tokens

    private static void words() {
        Check.edge(3, "WORDS (letters a .. z, 8 at most)");
        Check.of("pupil abcdefgh plain tall 1;");
        Check.of("pupil zzzzzzzz plain tall 1;pupil zzzzzzzy plain tall 1;pupil zzzzzzz plain tall 1;");
        Check.edge(3, "All else (a longer WORD .., at its first sign) is none");
        Check.fault("pupil abcdefghi plain tall 1;", 1, 6);
        Check.fault("pupil " + "a".repeat(40) + " plain tall 1;", 1, 6);
        Check.fault("abcdefghi", 1, 0);
        Check.fault(AB + "say a abcdefghi 0;", 1, N + 6);
        Check.fault(AB + "say abcdefghi", 1, N + 4);
        Check.fault(AB + "like a bbbbbbbbb 1;", 1, N + 7);
        Check.fault("wish likeslikes;", 1, 5);
        Check.edge(3, "TOKENS, each as long as can be");
        Check.fault("slipslip 1;", 1, 0);
        Check.fault("pupila plain tall 1;", 1, 0);
        Check.fault("wish nottall;", 1, 5);
        Check.fault("wish 1 orlikes;", 1, 7);
        Check.of("pupil talltall plain tall1;");
        Check.fault("A", 1, 0);
        Check.fault("Slip 1;", 1, 0);
        Check.fault("pupil aB plain tall 1;", 1, 7);
    }

    private static void numbers() {
        Check.edge(3, "NUMBERS (1 to 4 digits)");
        Check.due("one digit", Check.of("slip 3;").count(3), 3);
        Check.due("four digits", Check.of("slip 0003;").count(3), 3);
        Check.due("0000", Check.of("slip 0000;").count(3), 0);
        Check.of("wish 9999;");
        Check.edge(3, "All else (a longer .. NUMBER, at its first sign) is none");
        Check.fault("slip 00003;", 1, 5);
        Check.fault("slip 10000;", 1, 5);
        Check.fault("slip 99999;", 1, 5);
        Check.fault("wish 10000;", 1, 5);
        Check.fault("wish 4294967297;", 1, 5);
        Check.fault("12345", 1, 0);
        Check.edge(3, "a letter may stand right behind");
        Check.of("bench row 5worth 6;");
        Check.of("wish 1and 2or 3<4and 0005or not 6;");
        Check.fault("bench row 5x", 1, 11);
        Check.fault("slip 1slip", 1, 6);
        Check.edge(3, "TOKENS, each as long as can be");
        Check.fault("slip 11;", 4, 5);
        Check.fault("pupil a1 plain tall 1;", 1, 7);
        Check.fault("wish 1 2;", 1, 7);
    }

    private static void blanks() {
        Check.edge(3, "blanks (10, 32) between where one likes");
        Check.of("\n \npupil\na\n\nplain  tall\n5\n;\n \n");
        Check.of("wish(likes)+( tall)\n<\nother*2 ;");
        Check.of("wish\n1\n;");
        Check.fault("wish < ;", 1, 5);
        Check.fault("sl ip 1;", 1, 0);
        Check.fault("slip 1 2;", 1, 7);
        Check.due("blanks alone are a school of nobody", Check.of(" \n ").count(0), 0);
        Check.due("places count blanks", Check.read(new BenchOrder(), " \n\n x"), 1 + 16 * 4);
    }

    private static void otherSigns() {
        Check.edge(3, "All else is none");
        for (char sign = 33; sign <= 126; sign++) {
            boolean word = sign >= 'a' && sign <= 'z';
            boolean digit = sign >= '0' && sign <= '9';
            boolean known = "()<=+-*;".indexOf(sign) >= 0;
            Check.fault(String.valueOf(sign), 1, 0);
            Check.fault(sign + "slip 1;", 1, 0);
            Check.fault("pupil a plain tall " + sign + ";", digit ? 0 : 1, digit ? 0 : 19);
            if (!word && !digit && !known) {
                Check.fault("wish 1" + sign + "1;", 1, 6);
                Check.fault("wish " + sign + ";", 1, 5);
                Check.fault("slip 1" + sign, 1, 6);
                Check.fault("slip 1;" + sign, 1, 7);
                Check.fault("pupil " + sign, 1, 6);
                Check.fault("pupil a" + sign, 1, 7);
            }
        }
        Check.edge(3, "the signs ( ) < = + - * ;");
        Check.of("wish (1)<2;");
        Check.of("wish 1=2+3-4*5;");
    }

    private static void tapeIsTaken() {
        Check.edge(3, "what reads it takes it: it is empty then");
        BenchOrder x = new BenchOrder();
        Check.put(x, "slip 3;");
        Check.due("a school", x.school(), 0);
        Check.due("empty", x.count(6), 0);
        Check.due("an empty text", x.school(), 0);
        Check.due("without slip", x.count(3), 0);
        Check.put(x, "slip 2;what");
        Check.due("a fault", x.school(), 1 + 16 * 7);
        Check.due("empty behind a fault too", x.count(6), 0);
        Check.due("all new", x.feed(0x736C697020313B00L, 0, 0), 7);
        Check.due("nothing of the old text", x.school(), 0);
        Check.due("slip", x.count(3), 1);
        for (String old : new String[] {"a", "1", " ", ";"}) {
            for (String text : new String[] {"slip", "slip 1", "slip 1 ", "wish(1"}) {
                Check.put(x, old.repeat(40));
                x.school();
                Check.put(x, text);
                Check.due("what was there before is not read", x.school(), 1 + 16L * text.length());
            }
        }
    }

    // ---- promise 3: lines

    private static void lines() {
        Check.edge(3, "SCHOOL: any number of");
        Check.due("none", Check.of("").count(0), 0);
        BenchOrder x = Check.of("wish 7;slip 1;bench row 0 worth 0;pupil a plain tall 1;bench row 1 worth 1;"
                + "pupil b plain tall 2;like b a 1;say b a 1;like a b 2;say a b 0;");
        int[] due = {2, 2, 2, 1};
        for (int what = 0; what < 4; what++) {
            Check.due("in any order, count " + what, x.count(what), due[what]);
        }
        Check.edge(3, "1 it is none, or can't stand there");
        for (String word : KEPT) {
            boolean begins = "pupil bench say like slip wish".contains(word);
            Check.fault(word, 1, begins ? word.length() : 0);
        }
        Check.fault("likes", 1, 0);
        Check.fault("5", 1, 0);
        Check.fault("slip 1;;", 1, 7);
        Check.fault(AB + "a", 1, N);
    }

    private static void pupilLines() {
        Check.edge(3, "pupil: 10 at most, numbered as told");
        BenchOrder x = Check.of(Check.pupils(10));
        for (int p = 0; p < 10; p++) {
            Check.due("pupil " + p, x.pupil(p, 1), p);
        }
        Check.edge(3, "5 one too many: the words pupil of an eleventh");
        String ten = Check.pupils(10);
        Check.fault(ten + "pupil k plain tall 1;", 5, ten.length());
        Check.fault(ten + "pupil", 5, ten.length());
        Check.fault(ten + "pupil a plain tall 1;", 5, ten.length());
        Check.fault(ten + "pupil 5", 5, ten.length());
        Check.edge(3, "tall 0 to 99");
        Check.due("0", Check.of("pupil a plain tall 0;").pupil(0, 1), 0);
        Check.due("99", Check.of("pupil a plain tall 99;").pupil(0, 1), 99);
        Check.edge(3, "4 a NUMBER that is not as told");
        Check.fault("pupil a plain tall 100;", 4, 19);
        Check.fault("pupil a plain tall 9999;", 4, 19);
        Check.edge(3, "KIND: plain, proud, shy, helped, rival");
        for (int k = 0; k < 5; k++) {
            Check.due(KINDS[k], Check.of("pupil a " + KINDS[k] + " tall 1;").pupil(0, 0), k);
        }
        Check.fault("pupil a big tall 1;", 1, 8);
        Check.fault("pupil a tall tall 1;", 1, 8);
        Check.fault("pupil a likes tall 1;", 1, 8);
        Check.fault("pupil a ;", 1, 8);
        Check.fault("pupil a plain plain 1;", 1, 14);
        Check.fault("pupil a plain tall tall;", 1, 19);
        Check.fault("pupil a plain tall -1;", 1, 19);
        Check.fault("pupil a plain tall 1)", 1, 20);
        Check.fault("pupil a plain tall 1 pupil b plain tall 1;", 1, 21);
    }

    private static void benchLines() {
        String six = "bench row 9 worth 99;".repeat(6);
        Check.edge(3, "bench: 6 at most");
        BenchOrder x = Check.of("pupil a plain tall 1;" + six);
        Check.due("benches", x.count(1), 6);
        Check.edge(3, "its SEATS are 2 * bench (left) and 1 more (right)");
        Check.due("the last seat", x.sit(0, 11), true);
        Check.due("beyond", x.sit(0, 12), false);
        Check.edge(3, "5 one too many: the words bench of a seventh");
        Check.fault(six + "bench row 1 worth 1;", 5, six.length());
        Check.fault(six + "bench", 5, six.length());
        Check.edge(3, "row 0 to 9");
        Check.of("bench row 0 worth 1;");
        Check.of("bench row 9 worth 1;");
        Check.fault("bench row 10 worth 1;", 4, 10);
        Check.edge(3, "worth 0 to 99");
        Check.of("bench row 1 worth 0;");
        Check.of("bench row 1 worth 99;");
        Check.fault("bench row 1 worth 100;", 4, 18);
        Check.fault("bench row 10 worth 100;", 4, 10);
        Check.edge(3, "1 it is none, or can't stand there");
        Check.fault("bench 1", 1, 6);
        Check.fault("bench worth 1 row 1;", 1, 6);
        Check.fault("bench row worth 1;", 1, 10);
        Check.fault("bench row 1 row 1;", 1, 12);
        Check.fault("bench row 1 worth row;", 1, 18);
        Check.fault("bench row 1 worth 1 worth", 1, 20);
    }

    private static void sayLines() {
        Check.edge(3, "say: the first was better, said by MASTER (0 or 1)");
        BenchOrder x = Check.of(AB + "say b a 1;say a b 0;");
        int[][] due = {{1, 0, 1}, {0, 1, 0}};
        for (int i = 0; i < 2; i++) {
            for (int what = 0; what < 3; what++) {
                Check.due("saying " + i, x.saying(i, what), due[i][what]);
            }
        }
        Check.fault(AB + "say a b 2;", 4, N + 8);
        Check.fault(AB + "say a b 9999;", 4, N + 8);
        Check.edge(3, "40 SAYINGS at most, those by hand too");
        String forty = AB + "say a b 0;".repeat(40);
        BenchOrder full = Check.of(forty);
        Check.due("forty", full.count(2), 40);
        Check.due("no more by hand", full.say(0, 1, 0), -1);
        BenchOrder nearly = Check.of(AB + "say a b 0;".repeat(39));
        Check.due("one more by hand", nearly.say(1, 0, 1), 40);
        Check.due("but one", nearly.say(1, 0, 1), -1);
        Check.due("those by hand are no matter to a new text", Check.read(nearly, forty), 0);
        Check.edge(3, "5 one too many: the words say of the 41st");
        Check.fault(forty + "say a b 0;", 5, forty.length());
        Check.fault(forty + "say", 5, forty.length());
        Check.fault(forty + "say a a 2;", 5, forty.length());
        Check.of(forty + "like a b 1;slip 1;");
        Check.edge(3, "2 a NAME of no PUPIL told (behind say, like)");
        Check.fault("say a b 0;", 2, 4);
        Check.fault(AB + "say c a 0;", 2, N + 4);
        Check.fault(AB + "say a c 0;", 2, N + 6);
        Check.fault(AB + "say a aa 0;", 2, N + 6);
        Check.fault(AB + "say likes a 0;", 2, N + 4);
        Check.fault("pupil a plain tall 1;say a b 0;pupil b plain tall 1;", 2, 27);
        Check.edge(3, "3 the second NAME of say that is the first one");
        Check.fault(AB + "say a a 0;", 3, N + 6);
        Check.fault(AB + "say b b 2;", 3, N + 6);
        Check.fault(AB + "say c c 0;", 2, N + 4);
        Check.edge(3, "1 it is none, or can't stand there");
        Check.fault(AB + "say 0 a b;", 1, N + 4);
        Check.fault(AB + "say a 0 b;", 1, N + 6);
        Check.fault(AB + "say a b b;", 1, N + 8);
        Check.fault(AB + "say a b;", 1, N + 7);
        Check.fault(AB + "say a b 0 0;", 1, N + 10);
    }

    private static void likeLines() {
        Check.edge(3, "like: how much the first likes the second one, 0 to 99");
        BenchOrder x = Check.of(AB + "like a b 99;like b a 0;");
        Check.due("99", x.wishes(0, 1), 99);
        Check.due("0", x.wishes(1, 0), 0);
        Check.fault(AB + "like a b 100;", 4, N + 9);
        Check.edge(3, "0 without");
        Check.due("without", Check.of(AB + "like b a 4;").wishes(0, 1), 0);
        Check.edge(3, "each two once, this way round");
        Check.of(AB + "like a b 1;like b a 2;");
        Check.edge(3, "3 of like one told so already");
        Check.fault(AB + "like a b 1;like a b 1;", 3, N + 18);
        Check.fault(AB + "like a b 0;like a b 0;", 3, N + 18);
        Check.fault(AB + "like a b 1;like b a 1;like b a 100;", 3, N + 29);
        String three = Check.pupils(3) + "like a b 1;like a c 1;like b c 1;";
        Check.fault(three + "like a b 1;", 3, three.length() + 7);
        Check.fault(three + "like a c 1;", 3, three.length() + 7);
        Check.fault(three + "like b c 1;", 3, three.length() + 7);
        Check.of(three + "like c b 1;like c a 1;like b a 1;");
        Check.due("told in an earlier text", Check.read(x, AB + "like a b 7;"), 0);
        Check.edge(3, "3 the second NAME of like that is the first one");
        Check.fault(AB + "like b b 1;", 3, N + 7);
        Check.edge(3, "2 a NAME of no PUPIL told (behind say, like)");
        Check.fault(AB + "like c b 1;", 2, N + 5);
        Check.fault(AB + "like a c 1;", 2, N + 7);
        Check.edge(3, "1 it is none, or can't stand there");
        Check.fault(AB + "like a 1;", 1, N + 7);
        Check.fault(AB + "like a b;", 1, N + 8);
        Check.fault(AB + "like a b 1", 1, N + 10);
        Check.fault(AB + "like;", 1, N + 4);
        BenchOrder ten = Check.of(Check.pupils(10) + "like i j 5;like j i 6;");
        Check.due("the last two", ten.wishes(8, 9), 5);
        Check.due("the other way round", ten.wishes(9, 8), 6);
    }

    private static void slipAndWish() {
        Check.edge(3, "slip: 0 to 3 (0 without)");
        Check.due("without", Check.of("").count(3), 0);
        for (int slip = 0; slip <= 3; slip++) {
            Check.due("slip " + slip, Check.of("slip " + slip + ";").count(3), slip);
        }
        Check.fault("slip 4;", 4, 5);
        Check.fault("slip 9999;", 4, 5);
        Check.fault("slip;", 1, 4);
        Check.fault("slip x;", 1, 5);
        Check.fault("slip 1 slip 1;", 1, 7);
        Check.edge(3, "3 the words slip, wish a second time");
        Check.fault("slip 0;slip 0;", 3, 7);
        Check.fault("slip 1;wish 1;slip", 3, 14);
        Check.fault("wish 1;wish 1;", 3, 7);
        Check.fault("wish 1;slip 1;wish;", 3, 14);
        BenchOrder x = Check.of("slip 1;wish 1;");
        Check.due("in another text they may stand again", Check.read(x, "slip 2;wish 2;"), 0);
        Check.due("behind a fault too", Check.read(x, "slip 2;wish 2;x"), 1 + 16 * 14);
        Check.due("behind a fault too", Check.read(x, "slip 2;wish 2;"), 0);
    }

    private static void names() {
        Check.edge(3, "A NAME is another WORD than pupil, tall, bench, ..");
        for (String word : KEPT) {
            Check.fault("pupil " + word + " plain tall 1;", 1, 6);
            Check.fault(AB + "say " + word + " a 0;", 1, N + 4);
            Check.fault(AB + "say a " + word + " 0;", 1, N + 6);
            Check.fault(AB + "like " + word + " a 0;", 1, N + 5);
            Check.fault(AB + "like a " + word + " 0;", 1, N + 7);
        }
        String facts = "";
        for (String word : new String[] {"likes", "other", "above", "below"}) {
            facts += "pupil " + word + " plain tall 3;";
        }
        BenchOrder x = Check.of(facts + "say likes above 0;like other below 4;wish likes+other;");
        Check.due("facts may be names", x.saying(0, 1), 2);
        Check.due("and stay facts", x.wishes(1, 3), 7);
        Check.of("pupil pupils plain tall 1;pupil no plain tall 1;pupil an plain tall 1;pupil o plain tall 1;");
        Check.edge(3, "no two are alike");
        Check.fault("pupil a plain tall 1;pupil a shy tall 2;", 3, 27);
        Check.fault(Check.pupils(9) + "pupil i", 3, Check.pupils(9).length() + 6);
        Check.of("pupil a plain tall 1;pupil aa plain tall 1;pupil aaa plain tall 1;pupil aaaaaaaa plain tall 1;");
        Check.due("alike in another text", Check.read(x, facts), 0);
    }

    private static void ends() {
        Check.edge(3, "the end being one at the text's length");
        String[] parts = {"pupil", " a", " plain", " tall", " 5"};
        String text = "";
        for (String part : parts) {
            text += part;
            Check.fault(text, 1, text.length());
            Check.fault(text + " \n ", 1, text.length() + 3);
        }
        Check.fault("bench", 1, 5);
        Check.fault("bench row", 1, 9);
        Check.fault("bench row 1", 1, 11);
        Check.fault("bench row 1 worth", 1, 17);
        Check.fault("bench row 1 worth 1", 1, 19);
        Check.fault(AB + "say", 1, N + 3);
        Check.fault(AB + "say a", 1, N + 5);
        Check.fault(AB + "say a b", 1, N + 7);
        Check.fault(AB + "say a b 0", 1, N + 9);
        Check.fault(AB + "like", 1, N + 4);
        Check.fault(AB + "like a", 1, N + 6);
        Check.fault(AB + "like a b", 1, N + 8);
        Check.fault(AB + "like a b 0", 1, N + 10);
        Check.fault("slip", 1, 4);
        Check.fault("slip 1", 1, 6);
        Check.fault("wish", 1, 4);
        Check.fault("wish 1", 1, 6);
        Check.fault("wish not", 1, 8);
        Check.fault("wish (", 1, 6);
        Check.fault("wish (1", 1, 7);
        Check.fault("wish 1+", 1, 7);
        Check.fault("wish 1<", 1, 7);
        Check.fault("wish 1 and ", 1, 11);
        String longest = "wish " + "1+".repeat(497) + "1";
        Check.fault(longest, 1, 1000);
        Check.of("wish " + "1+".repeat(496) + "1 ;");
    }

    private static void leastKind() {
        Check.edge(3, "of the first token from the left that is wrong");
        Check.fault("slip 4 slip 4;", 4, 5);
        Check.fault("pupil a plain tall 100;say x y 2;", 4, 19);
        Check.fault("pupil a plain tall 1;say a a 2;!", 3, 27);
        Check.fault("say x x 9", 2, 4);
        Check.fault("slip 1;slip 9 !", 3, 7);
        Check.edge(3, "the least");
        Check.fault("wish (((((;", 1, 10);
        Check.fault("wish not not not not not;", 1, 24);
        Check.fault("wish (((((!", 1, 10);
        Check.fault("wish (((((", 1, 10);
        Check.fault("wish (((((slip", 1, 10);
        Check.fault("wish ((((()", 1, 10);
        Check.fault("wish (((((and", 1, 10);
        Check.fault("wish (((((12345", 1, 10);
    }

    private static void grammar() {
        Check.edge(3, "TEST: SUM, or SUM < SUM, or SUM = SUM");
        Check.fault("wish 1<2<3;", 1, 8);
        Check.fault("wish 1<2=3;", 1, 8);
        Check.fault("wish 1=2<3;", 1, 8);
        Check.fault("wish 1=2=3;", 1, 8);
        Check.of("wish 1<2 and 3=4 or 5<6;");
        Check.of("wish (1<2)=(3<4);");
        Check.fault("wish <1;", 1, 5);
        Check.fault("wish 1<;", 1, 7);
        Check.fault("wish 1=and 2;", 1, 7);
        Check.edge(3, "SUM: PRODUCT { + or - PRODUCT }; PRODUCT: PART { * PART }");
        Check.fault("wish -1;", 1, 5);
        Check.fault("wish +1;", 1, 5);
        Check.fault("wish *1;", 1, 5);
        Check.fault("wish 1+-1;", 1, 7);
        Check.fault("wish 1-;", 1, 7);
        Check.fault("wish 1*+1;", 1, 7);
        Check.fault("wish 1 likes;", 1, 7);
        Check.fault("wish 1 not 1;", 1, 7);
        Check.fault("wish 1(1);", 1, 6);
        Check.of("wish not 1*not 1+not(1)-not not 1;");
        Check.edge(3, "E: TEST { and TEST or or TEST }");
        Check.fault("wish and 1;", 1, 5);
        Check.fault("wish 1 or;", 1, 9);
        Check.fault("wish 1 and or 1;", 1, 11);
        Check.edge(3, "PART: a NUMBER, a fact, not PART, ( E )");
        Check.fault("wish;", 1, 4);
        Check.fault("wish ();", 1, 6);
        Check.fault("wish (1;", 1, 7);
        Check.fault("wish 1);", 1, 6);
        Check.fault("wish not;", 1, 8);
        Check.fault("wish not<1;", 1, 8);
        for (String word : new String[] {"a", "row", "worth", "pupil", "plain", "say", "like", "slip", "wish", "or"}) {
            Check.fault("pupil a plain tall 1;wish " + word + ";", 1, 26);
        }
        for (String word : new String[] {"likes", "tall", "other", "above", "below"}) {
            Check.of("wish " + word + ";");
        }
    }

    private static void nesting() {
        Check.edge(3, "no PART lies within 5 of not and ( )");
        Check.of("wish not not not not 1;");
        Check.of("wish ((((likes))));");
        Check.of("wish not(not(1));");
        Check.of("wish (not(not tall*(2)))+((((3))))-not not not not 4<not(not(other));");
        Check.edge(3, "5 not, or a PART, within 5 others");
        Check.fault("wish not not not not not 1;", 5, 25);
        Check.fault("wish not not not not not not 1;", 5, 25);
        Check.fault("wish not not not not not(1);", 5, 24);
        Check.fault("wish (((((likes)))));", 5, 10);
        Check.fault("wish ((((((1))))));", 5, 10);
        Check.fault("wish (((((not 1)))));", 5, 10);
        Check.fault("wish not(not(not 1));", 5, 17);
        Check.fault("wish (1+(2+(3+(4+(5)))));", 5, 18);
        Check.fault("wish (1<(2 and(3*(not 4))));", 5, 22);
        Check.fault("wish ((((1))))+((((1*(2)))));", 5, 22);
        Check.of("wish ((((1)*not 2)*not 3)*not 4);");
        Check.fault("wish ((((1*not 2", 5, 15);
    }

    // ---- promise 3: what a text leaves

    private static BenchOrder settled() {
        BenchOrder x = Check.of(ALL);
        x.say(1, 0, 0);
        x.sit(0, 3);
        x.sit(1, 0);
        x.plan(1, 2);
        x.mark(1, false);
        return x;
    }

    private static void faultLeavesAll() {
        Check.edge(3, "or its FAULT (all stays then)");
        BenchOrder x = settled();
        String before = Check.state(x);
        String other = Check.pupils(4) + "bench row 3 worth 1;slip 3;say d a 0;like a b 9;wish 4;";
        String[] ends = {"!", "slip", "pupil a", "say a x", "slip 4", "like a b", "bench row 10", "wish", "say a b 0"};
        for (String end : ends) {
            Check.due("a fault at " + end, Check.read(x, other + end) > 0, true);
            Check.same("a fault at " + end, Check.state(x), before);
        }
        Check.due("the mark is as it was", x.mark(1, true), true);
        Check.same("the mark", Check.state(x), before);
    }

    private static void schoolFromThenOn() {
        Check.edge(3, "it is the SCHOOL from then on: nobody sits, nothing is planned");
        BenchOrder x = settled();
        String marked = Check.state(x);
        String text = "pupil q plain tall 3;pupil r plain tall 4;bench row 1 worth 1;bench row 1 worth 1;";
        Check.due("another school", Check.read(x, text), 0);
        Check.same("of the old one nothing", Check.state(x), Check.state(Check.of(text)));
        Check.due("no sayings", x.count(2), 0);
        Check.due("no slip", x.count(3), 0);
        Check.due("nobody sits", x.count(4), 0);
        Check.due("nothing is planned", x.count(5), 0);
        Check.due("likes is the wish", x.wishes(1, 0), 0);
        Check.due("an old seat is free", x.sit(0, 0), true);
        Check.due("an old plan is free", x.plan(0, 2), true);
        String[] texts = {Check.pupils(10) + "say a b 0;say b a 1;say j i 0;say i j 0;slip 3;wish 5;",
            Check.pupils(5) + "say a b 0;say c d 0;", Check.pupils(4) + "wish tall+2*other;like a b 3;",
            Check.pupils(8) + "say h a 0;say a h 0;wish 9-other;", Check.pupils(3) + "slip 1;say c b 0;",
            Check.pupils(2) + "wish below;say b a 1;", "", Check.pupils(1) + "bench row 1 worth 1;"};
        BenchOrder used = new BenchOrder();
        for (String next : texts) {
            Check.due("another school", Check.read(used, next), 0);
            Check.same("of the old ones nothing", Check.state(used), Check.state(Check.of(next)));
        }
        Check.edge(3, "MARKS stay");
        Check.due("the mark is there", x.mark(1, true), true);
        Check.same("back", Check.state(x), marked);
        Check.due("none on the others", x.mark(0, true) || x.mark(2, true) || x.mark(3, true), false);
    }
}
