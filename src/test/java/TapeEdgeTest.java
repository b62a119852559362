/** Promises 5 to 7 at their edges, a test for each sentence: feed, adopt, fault. */
public final class TapeEdgeTest {
    public static void main(String[] args) {
        Checks c = new Checks("TapeEdgeTest");
        promise5TheHighestFirst(c);
        promise5BehindThoseOnTheTape(c);
        promise5NotMoreThan600(c);
        promise6TheFirstBytes(c);
        promise6TheTapeIsEmptyThen(c);
        promise6BelowZeroOrMoreThanThereAre(c);
        promise6UpTo20(c);
        promise7OfTheLatest(c);
        promise7NotOfRefusedOnes(c);
        c.end();
    }

    private static void promise5TheHighestFirst(Checks c) {
        c.says("Twenty bytes come behind those on the tape, of each number the highest first");
        // A text that is sound in this order of its bytes alone.
        String text = "duty sort1is234;term";
        StaplePort x = Checks.portWithMerchants(1);
        c.due("feed", x.feed(0x64757479, 0x20736f72, 0x74316973, 0x3233343b, 0x7465726d), 20);
        x.feed(0x3536373b, 0x20202020, 0x20202020, 0x20202020, 0x20202020);
        c.due("adopt of '" + text + "567;'", x.adopt(24), 0);
        c.due("its DUTY", x.custom(x.bring(0, 0, 1, 1)), 234);
        c.due("its TERM", x.lot(0, 9), 567);
        for (int place = 0; place < 20; place++) {
            int[] words = {0x20202020, 0x20202020, 0x20202020, 0x20202020, 0x20202020};
            words[place / 4] ^= 0x7f << 8 * (3 - place % 4);
            StaplePort y = new StaplePort();
            y.feed(words[0], words[1], words[2], words[3], words[4]);
            c.due("adopt with a wrong byte at " + place, y.adopt(20), -1);
            c.due("fault()", y.fault(), place);
        }
    }

    private static void promise5BehindThoseOnTheTape(Checks c) {
        c.says("Twenty bytes come behind those on the tape");
        for (int feeds = 1; feeds <= 30; feeds++) {
            StaplePort x = new StaplePort();
            for (int i = 1; i < feeds; i++) {
                Checks.feedText(x, " ".repeat(20));
            }
            Checks.feedText(x, "term 5; lost ends; !");
            c.due("bytes on the tape", x.count(7), 20 * feeds);
            c.due("adopt", x.adopt(20 * feeds), -1);
            c.due("fault()", x.fault(), 20 * feeds - 1);
        }
    }

    private static void promise5NotMoreThan600(Checks c) {
        c.says("how many there are. NONE, doing nothing: there would be more than 600.");
        StaplePort x = new StaplePort();
        for (int i = 1; i <= 30; i++) {
            c.due("feed " + i, x.feed(Integer.MIN_VALUE, Integer.MAX_VALUE, -1, 0, 0x20202020), 20 * i);
        }
        c.due("the 31st feed", x.feed(0, 0, 0, 0, 0), -1);
        c.due("the 32nd feed", x.feed(-1, -1, -1, -1, -1), -1);
        c.due("bytes on the tape", x.count(7), 600);

        StaplePort y = new StaplePort();
        Checks.feedText(y, " ".repeat(591) + "term 999;");
        y.feed(0, 0, 0, 0, 0);
        c.due("adopt of all 600", y.adopt(600), 0);
        c.due("feed when it is empty", y.feed(0, 0, 0, 0, 0), 20);
    }

    private static void promise6TheFirstBytes(Checks c) {
        c.says("The first n bytes of the tape (which is empty then) are a STATUTE");
        c.due("adopt(0) of an empty tape", new StaplePort().adopt(0), 0);
        String tape = "term 7;term 8;!!!!!!";
        int[] due = {7, 14};
        for (int n : due) {
            StaplePort x = Checks.portWithMerchants(1);
            Checks.feedText(x, tape);
            c.due("adopt(" + n + ") of '" + tape + "'", x.adopt(n), 0);
            c.due("fault()", x.fault(), -1);
        }
        for (int n = 15; n <= 20; n++) {
            StaplePort x = new StaplePort();
            Checks.feedText(x, tape);
            c.due("adopt(" + n + ") of '" + tape + "'", x.adopt(n), -1);
            c.due("fault()", x.fault(), 14);
        }
        StaplePort none = new StaplePort();
        Checks.feedText(none, "!");
        c.due("adopt(0) of '!'", none.adopt(0), 0);
        c.due("STATUTES", none.count(2), 1);
    }

    private static void promise6TheTapeIsEmptyThen(Checks c) {
        c.says("The first n bytes of the tape (which is empty then)");
        String[] tapes = {"term 5; lost ends; no", "never", "", "!"};
        int[] ns = {7, 5, 0, 0};
        for (int i = 0; i < ns.length; i++) {
            StaplePort x = new StaplePort();
            Checks.feedText(x, tapes[i]);
            x.adopt(ns[i]);
            c.due("bytes behind adopt of '" + tapes[i] + "'", x.count(7), 0);
            c.due("adopt(1)", x.adopt(1), -2);
            c.due("feed", x.feed(0x7465726d, 0x353b2020, 0x20202020, 0x20202020, 0x20202020), 20);
            int statutes = x.count(2);
            c.due("adopt", x.adopt(20), statutes);
            c.due("fault()", x.fault(), -1);
        }
    }

    private static void promise6BelowZeroOrMoreThanThereAre(Checks c) {
        c.says("-2, doing nothing: n is below 0 or more than there are");
        for (int feeds : new int[] {0, 1, 2, 30}) {
            Script fed = new Script().feed(" ".repeat(20 * feeds));
            // With no byte there is but one n that is allowed.
            if (feeds > 0) {
                c.range("adopt(n) of " + 20 * feeds, 0, 20 * feeds, n -> fed.port().adopt(n), n -> 0, -2);
            }
            StaplePort x = fed.port();
            for (int n : new int[] {-1, 20 * feeds + 1, Integer.MIN_VALUE, Integer.MAX_VALUE}) {
                c.due("adopt(" + n + ")", x.adopt(n), -2);
            }
            c.due("STATUTES", x.count(2), 0);
            c.due("bytes on the tape", x.count(7), 20 * feeds);
            c.due("adopt of all", x.adopt(20 * feeds), 0);
        }
    }

    private static void promise6UpTo20(Checks c) {
        c.says("-3, doing nothing: there are 20.");
        StaplePort x = new StaplePort();
        for (int i = 0; i < 20; i++) {
            c.due("one with a FAULT is none of them", Checks.adoptText(x, "term"), -1);
            c.due("STATUTE " + i, Checks.adoptText(x, "term 5;"), i);
        }
        Checks.feedText(x, "term 6; forbid sort;");
        for (int n : new int[] {0, 7, 20}) {
            c.due("adopt(" + n + "), the 21st", x.adopt(n), -3);
        }
        c.due("bytes on the tape", x.count(7), 20);
        c.due("STATUTES", x.count(2), 20);
        c.due("fault()", x.fault(), -1);
        c.due("force(0)", x.force(0), 19);
        for (int i = 0; i < 20; i++) {
            x.undo(i);
        }
        c.due("with all UNDONE", x.adopt(7), -3);
        c.due("STATUTES", x.count(2), 20);
    }

    private static void promise7OfTheLatest(Checks c) {
        c.says("The FAULT's place of the latest adopt() that was a number or NONE; NONE: it had none.");
        StaplePort x = new StaplePort();
        c.due("fault() ahead of any adopt()", x.fault(), -1);
        Checks.adoptText(x, "term");
        c.due("fault() of 'term'", x.fault(), 4);
        c.due("fault() again", x.fault(), 4);
        Checks.adoptText(x, "!");
        c.due("fault() of '!'", x.fault(), 0);
        Checks.adoptText(x, "");
        c.due("fault() of ''", x.fault(), -1);
        Checks.adoptText(x, "term 1; lost");
        c.due("fault() of 'term 1; lost'", x.fault(), 12);
        Checks.adoptText(x, "term 1;");
        c.due("fault() of 'term 1;'", x.fault(), -1);
    }

    private static void promise7NotOfRefusedOnes(Checks c) {
        c.says("of the latest adopt() that was a number or NONE");
        StaplePort x = new StaplePort();
        Checks.adoptText(x, "term 1; lost");
        x.adopt(-1);
        c.due("fault() behind a -2", x.fault(), 12);
        Checks.feedText(x, "term 5;");
        x.adopt(21);
        c.due("fault() behind another", x.fault(), 12);
        x.undo(0);
        x.day(5);
        c.due("fault() on a later day", x.fault(), 12);

        StaplePort y = new StaplePort();
        for (int i = 0; i < 19; i++) {
            y.adopt(0);
        }
        Checks.adoptText(y, "forbid");
        y.adopt(1);
        c.due("fault() of the 20th", y.fault(), 6);
        y.adopt(0);
        c.due("fault() of the 20th that is sound", y.fault(), -1);
        Checks.feedText(y, "forbid");
        c.due("the 21st", y.adopt(6), -3);
        c.due("fault() behind a -3", y.fault(), -1);
    }

    private TapeEdgeTest() {
    }
}
