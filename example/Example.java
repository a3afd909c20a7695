import java.util.NoSuchElementException;

/** A school of four, from its text to who sees the board. */
public final class Example {
    private static final String TEXT =
            "pupil anna proud tall 30; pupil bo shy tall 45; pupil cy rival tall 60; pupil dora helped tall 40;"
            + " bench row 0 worth 9; bench row 1 worth 5;"
            + " say anna bo 0; say bo cy 1; like bo anna 40; like anna bo 20;"
            + " slip 1; wish likes + above * 5;";

    public static void main(String[] args) {
        BenchOrder x = new BenchOrder();
        feed(x, TEXT);
        System.out.println("signs on the tape:        " + x.count(6));
        System.out.println("fault:                    " + x.school());
        System.out.println("orders that fit:          " + x.orders());
        System.out.println("anna and cy:              " + x.sure(0, 2));
        System.out.println("dora's places:            " + x.span(3, 0) + " to " + x.span(3, 1));
        System.out.println("ask next:                 " + x.next(0) + " and " + x.next(1) + ", at most " + x.next(2) + " left");
        System.out.println("sayings needed:           " + x.needed() + ", for dora " + x.newOne(3));
        System.out.println("anna above cy:            " + x.chance(0, 2, 0) + " of " + x.chance(0, 2, 1));

        System.out.println("cy better than anna:      saying " + x.say(2, 0, 0));
        System.out.println("orders, dropped, helped:  " + x.orders() + ", " + x.dropped(BenchOrder.NONE) + ", " + x.helped());
        System.out.println("row:                      " + x.row(0) + x.row(1) + x.row(2) + x.row(3));
        System.out.println("gone again:               " + x.unsay());

        System.out.println("bo's wish for anna:       " + x.wishes(1, 0));
        System.out.println("pairs at rest:            " + x.rests() + ", anna by " + x.rest(0, 0));
        System.out.println("days of seed 7:           " + x.season(7, 0));

        for (int pupil = 0; pupil < 4; pupil++) {
            x.sit(pupil, pupil);
            x.plan(pupil, 3 - pupil);
        }
        System.out.println("changes:                  " + x.changes());
        System.out.println("taller ones before dora:  " + x.hidden(3));
        x.sit(0, BenchOrder.NONE);
        try {
            x.hidden(0);
        } catch (NoSuchElementException e) {
            System.out.println("anna stands");
        }

        feed(x, "pupil a plain tall 100;");
        int fault = x.school();
        System.out.println("fault " + fault % 16 + " at the sign " + fault / 16 + ", still " + x.count(0) + " pupils");
    }

    /** 24 signs a call, eight in each long, the first one highest; a sign 0 is left out. */
    private static void feed(BenchOrder x, String text) {
        for (int i = 0; i < text.length(); i += 24) {
            x.feed(eight(text, i), eight(text, i + 8), eight(text, i + 16));
        }
    }

    private static long eight(String text, int from) {
        long all = 0;
        for (int i = from; i < from + 8; i++) {
            all = all << 8 | (i < text.length() ? text.charAt(i) : 0);
        }
        return all;
    }
}
