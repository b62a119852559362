/** Promises 5 to 9: feed, adopt, fault, undo, force; and what a STATUTE's text may be. */
public final class StatuteTest {
    public static void main(String[] args) {
        Checks c = new Checks("StatuteTest");
        promise5Feed(c);
        promise6AdoptNumbers(c);
        promise6SoundTexts(c);
        promise6WhatAStatuteSays(c);
        promise6FirstDutyThatHolds(c);
        promise6LastTermAndLost(c);
        promise7Fault(c);
        promise7FaultStays(c);
        promise8Undo(c);
        promise9Force(c);
        c.end();
    }

    private static void promise5Feed(Checks c) {
        StaplePort x = new StaplePort();
        for (int i = 1; i <= 30; i++) {
            c.due("feed " + i, x.feed(i, -i, Integer.MIN_VALUE, Integer.MAX_VALUE, 0), 20 * i);
            c.due("bytes on the tape", x.count(7), 20 * i);
        }
        c.due("the 31st feed", x.feed(1, 2, 3, 4, 5), -1);
        c.due("bytes on the tape", x.count(7), 600);
        c.due("adopt(601)", x.adopt(601), -2);
        c.due("adopt(600)", x.adopt(600), -1);
        c.due("fault()", x.fault(), 0);
        c.due("bytes on the tape", x.count(7), 0);
        c.due("feed behind adopt", x.feed(1, 2, 3, 4, 5), 20);

        // The highest byte of each number comes first, the numbers in their order.
        StaplePort y = new StaplePort();
        y.feed(0x74657220, 0, 0, 0, 0);
        c.due("adopt 'ter '", y.adopt(4), -1);
        c.due("fault()", y.fault(), 0);
        y.feed(0x666f7262, 0x69642073, 0x6f727420, 0x31206d61, 0x6e20323b);
        c.due("adopt 'forbid sort 1 man 2;'", y.adopt(20), 0);
        c.due("fault()", y.fault(), -1);
        y.feed(0x20202020, 0x2020ff20, 0x20202020, 0x20202020, 0x20202020);
        c.due("adopt with byte 255", y.adopt(20), -1);
        c.due("fault()", y.fault(), 6);
        for (int place = 0; place < 20; place++) {
            int[] word = {0x20202020, 0x20202020, 0x20202020, 0x20202020, 0x20202020};
            word[place / 4] ^= 0x80 << 8 * (3 - place % 4);
            y.feed(word[0], word[1], word[2], word[3], word[4]);
            c.due("adopt with byte 160 at " + place, y.adopt(20), -1);
            c.due("fault()", y.fault(), place);
        }

        // What was behind the n bytes is gone, too; what is fed later comes behind nothing.
        StaplePort z = new StaplePort();
        Checks.feedText(z, "term 7; and what no statute is, in forty bytes");
        c.due("adopt(7)", z.adopt(7), 0);
        c.due("bytes on the tape", z.count(7), 0);
        c.due("adopt(1) of nothing", z.adopt(1), -2);
        Checks.feedText(z, "term");
        Checks.feedText(z, "8;");
        c.due("adopt over two feeds", z.adopt(22), 1);
    }

    private static void promise6AdoptNumbers(Checks c) {
        StaplePort x = new StaplePort();
        c.due("adopt(-1)", x.adopt(-1), -2);
        c.due("adopt(1)", x.adopt(1), -2);
        c.due("adopt least", x.adopt(Integer.MIN_VALUE), -2);
        c.due("adopt most", x.adopt(Integer.MAX_VALUE), -2);
        c.due("adopt(0)", x.adopt(0), 0);
        Checks.feedText(x, "term 1;");
        c.due("adopt(21)", x.adopt(21), -2);
        c.due("bytes on the tape", x.count(7), 20);
        c.due("adopt(20)", x.adopt(20), 1);
        for (int i = 2; i < 20; i++) {
            c.due("STATUTES", x.count(2), i);
            c.due("statute " + i, Checks.adoptText(x, "duty is 5;"), i);
        }
        Checks.feedText(x, "term 2;");
        c.due("the 21st statute", x.adopt(7), -3);
        c.due("bytes on the tape", x.count(7), 20);
        c.due("STATUTES", x.count(2), 20);
        c.due("adopt(21)", x.adopt(21), -2);
        c.due("adopt(-1)", x.adopt(-1), -2);
        x.undo(3);
        c.due("with one UNDONE", x.adopt(7), -3);
        c.due("STATUTES", x.count(2), 20);
    }

    private static void promise6SoundTexts(Checks c) {
        String[] texts = {
            "", " ", "\n \n", "duty is 0;", "duty is 999;", "duty is 007;", "term 000;", "forbid;",
            "duty sort 0 man 1 shire 2 is 3;", "forbid shire 999 shire 998 shire 000;",
            "lost ends;", "lost stands;", "lost stands;lost ends;", "\n\nterm\n5\n;\n",
            "duty sort3man1is40;", "forbid sort1man2shire3;", "term5;lost ends;",
            "  duty   sort   1   is   2   ;   ", repeated("term 1;", 16),
            repeated("forbid sort 1 man 1 shire 1;", 16), repeated("duty shire 1 man 1 sort 2 is 100;", 16),
            repeated("lost ends;", 16) + "   ",
        };
        StaplePort full = new StaplePort();
        c.due("adopt of 600 blanks", Checks.adoptText(full, " ".repeat(600)), 0);
        c.due("adopt up to the 600th byte", Checks.adoptText(full, " ".repeat(589) + "lost stands"), -1);
        c.due("fault()", full.fault(), 600);
        c.due("adopt up to the 600th byte", Checks.adoptText(full, " ".repeat(588) + "lost stands;"), 1);
        c.due("fault()", full.fault(), -1);
        StaplePort x = null;
        for (int i = 0; i < texts.length; i++) {
            if (i % 10 == 0) {
                x = new StaplePort();
            }
            c.due("adopt '" + texts[i] + "'", Checks.adoptText(x, texts[i]), i % 10);
            c.due("fault()", x.fault(), -1);
        }
    }

    private static void promise6WhatAStatuteSays(Checks c) {
        String[] marks = {"sort", "man", "shire"};
        for (int mark = 0; mark < 3; mark++) {
            StaplePort x = Checks.portWithMerchants(3);
            Checks.adoptText(x, "duty " + marks[mark] + " 2 is 7; forbid " + marks[mark] + " 1;");
            for (int i = 0; i < 27; i++) {
                int[] has = {i % 3, i / 3 % 3, i / 9};
                int lot = x.bring(has[1], has[2], has[0], 10);
                String of = marks[mark] + " of " + has[0] + " " + has[1] + " " + has[2];
                c.due("bring, " + of, lot == -3, has[mark] == 1);
                if (lot >= 0) {
                    c.due("custom, " + of, x.custom(lot), has[mark] == 2 ? 70 : 0);
                }
            }
        }
        StaplePort y = Checks.portWithMerchants(3);
        Checks.adoptText(y, "forbid;");
        c.due("bring where all is forbidden", y.bring(0, 0, 0, 1), -3);
        Checks.adoptText(y, "forbid sort 1 sort 2; forbid man 3; forbid shire 10;");
        c.due("bring where none is forbidden", y.bring(0, 1, 1, 1), 0);
        Checks.adoptText(y, "forbid sort 1 sort 1 sort 1; forbid sort 2 man 1 shire 4;");
        c.due("bring, sort 1", y.bring(0, 1, 1, 1), -3);
        c.due("bring, one COND fails", y.bring(0, 4, 2, 1), 1);
        c.due("bring, another fails", y.bring(1, 3, 2, 1), 2);
        c.due("bring, the third fails", y.bring(1, 4, 3, 1), 3);
        c.due("bring, all hold", y.bring(1, 4, 2, 1), -3);
        c.due("LOTS", y.count(4), 4);
    }

    private static void promise6FirstDutyThatHolds(Checks c) {
        StaplePort x = Checks.portWithMerchants(3);
        Checks.adoptText(x, "duty sort 1 sort 2 is 999; duty sort 1 man 1 is 3; duty shire 5 is 500;"
                + "duty sort 1 is 9; duty shire 5 is 40; duty sort 2 is 0; duty is 11; duty sort 0 is 12;");
        c.due("duty, the second", x.custom(x.bring(1, 5, 1, 500)), 1500);
        c.due("duty, the third", x.custom(x.bring(0, 5, 1, 500)), 250000);
        c.due("duty, the fourth", x.custom(x.bring(0, 4, 1, 2)), 18);
        c.due("duty of 0", x.custom(x.bring(1, 4, 2, 2)), 0);
        c.due("duty of all others", x.custom(x.bring(1, 4, 0, 2)), 22);
        Checks.adoptText(x, "duty is 999;");
        c.due("the highest duty", x.custom(x.bring(1, 4, 0, 500)), 499500);
        Checks.adoptText(x, "duty sort 0 is 7; term 5;");
        c.due("without one that holds", x.custom(x.bring(0, 0, 1, 5)), 0);
        c.due("a later one does not hold either", x.custom(x.bring(0, 0, 0, 5)), 35);
    }

    private static void promise6LastTermAndLost(Checks c) {
        c.due("term, none", dueBy("duty is 1;"), 100);
        c.due("term, one", dueBy("term 30; duty is 1;"), 130);
        c.due("term, the last", dueBy("term 30; duty is 1; term 999; term 2;"), 102);
        c.due("term, the last of 0", dueBy("term 30; duty is 1; term 0;"), 100);
        c.due("lost, none", endedBy("duty is 1;"), 0);
        c.due("lost ends", endedBy("duty is 1; lost ends;"), 1);
        c.due("lost stands", endedBy("lost stands; duty is 1;"), 0);
        c.due("lost, the last ends", endedBy("lost stands; duty is 1; lost ends;"), 1);
        c.due("lost, the last stands", endedBy("lost ends; duty is 1; lost stands;"), 0);
    }

    private static int dueBy(String statute) {
        StaplePort x = Checks.portWithMerchants(1);
        x.day(100);
        Checks.adoptText(x, statute);
        x.custom(x.bring(0, 0, 0, 1));
        return x.lot(0, 9);
    }

    private static int endedBy(String statute) {
        StaplePort x = Checks.portWithMerchants(1);
        Checks.adoptText(x, statute);
        x.custom(x.bring(0, 0, 0, 1));
        x.ship(x.fleet(), 1);
        Checks.loadLot(x, 0, 0, 1);
        x.sail(0);
        return x.sink(0);
    }

    private static void promise7Fault(Checks c) {
        fault(c, "x", 0);
        fault(c, "  dut", 2);
        fault(c, "dutyx is 4;", 0);
        fault(c, "dutyz is 4;", 0);
        fault(c, "dutya is 4;", 0);
        fault(c, "aduty is 4;", 0);
        fault(c, "term 5; du", 8);
        fault(c, "Duty is 4;", 0);
        fault(c, "dutY is 4;", 0);
        fault(c, "duty", 4);
        fault(c, "duty   ", 7);
        fault(c, "duty 4;", 5);
        fault(c, "duty4;", 4);
        fault(c, "duty;", 4);
        fault(c, "duty is", 7);
        fault(c, "duty is ;", 8);
        fault(c, "duty is sort 1;", 8);
        fault(c, "duty is 4", 9);
        fault(c, "duty is 4 ", 10);
        fault(c, "duty is 4 5;", 10);
        fault(c, "duty is 1000;", 8);
        fault(c, "duty is 0001;", 8);
        fault(c, "duty is 12a;", 10);
        fault(c, "duty is -1;", 8);
        fault(c, "duty is 1;;", 10);
        fault(c, "duty is 1; is", 11);
        fault(c, "duty is 1; \t", 11);
        fault(c, "duty is 1; \r\n", 11);
        fault(c, "duty is 1;\u0000", 10);
        fault(c, "duty is 1;`", 10);
        fault(c, "duty is 1;{", 10);
        fault(c, "duty is 1/;", 9);
        fault(c, "duty is 1:", 9);
        fault(c, "duty sort is 4;", 10);
        fault(c, "duty sort", 9);
        fault(c, "duty sort 1", 11);
        fault(c, "duty sort 1;", 11);
        fault(c, "duty sort 1000 is 4;", 10);
        fault(c, "duty sort 1 2 is 4;", 12);
        fault(c, "duty sorts 1 is 4;", 5);
        fault(c, "duty sort 1 man 1 shire 1 sort 2 is 4;", 26);
        fault(c, "duty sort 1 man 1 shire 1 is 4; duty sort 1 man 1 shire 1 man", 58);
        fault(c, "forbid is", 7);
        fault(c, "forbid is 4;", 7);
        fault(c, "forbid man 1", 12);
        fault(c, "forbid man 1 1;", 13);
        fault(c, "forbid sort 1 sort 1 sort 1 sort 1;", 28);
        fault(c, "forbid sort 1 sort 1 sort 1 is", 28);
        fault(c, "forbid", 6);
        fault(c, "forbid sort;", 11);
        fault(c, "forbid shire", 12);
        fault(c, "term", 4);
        fault(c, "term ;", 5);
        fault(c, "term is 4;", 5);
        fault(c, "term sort 1;", 5);
        fault(c, "term 4", 6);
        fault(c, "term 4 term 5;", 7);
        fault(c, "term 1000;", 5);
        fault(c, "lost", 4);
        fault(c, "lost;", 4);
        fault(c, "lost 1;", 5);
        fault(c, "lost never;", 5);
        fault(c, "lost end;", 5);
        fault(c, "lost endss;", 5);
        fault(c, "lost ends", 9);
        fault(c, "lost ends stands;", 10);
        fault(c, "lost stands", 11);
        fault(c, "lost stands ends;", 12);
        fault(c, "ends;", 0);
        fault(c, "sort 1;", 0);
        fault(c, "is 1;", 0);
        fault(c, "1;", 0);
        fault(c, ";", 0);
        fault(c, repeated("term 1;", 16) + "  term 1;", 114);
        fault(c, repeated("term 1;", 16) + "!", 112);
        fault(c, repeated("lost ends;", 17), 160);
        fault(c, repeated("forbid;", 15) + "duty is 1; forbid", 116);
    }

    private static void fault(Checks c, String text, int place) {
        StaplePort x = new StaplePort();
        x.adopt(0);
        c.due("adopt '" + text + "'", Checks.adoptText(x, text), -1);
        c.due("fault() of '" + text + "'", x.fault(), place);
        c.due("STATUTES", x.count(2), 1);
        c.due("bytes on the tape", x.count(7), 0);
        c.due("force(0)", x.force(0), 0);
    }

    private static void promise7FaultStays(Checks c) {
        StaplePort x = new StaplePort();
        c.due("fault() of none", x.fault(), -1);
        Checks.adoptText(x, "duty is");
        c.due("fault()", x.fault(), 7);
        x.adopt(-1);
        c.due("fault() behind a -2", x.fault(), 7);
        x.adopt(1);
        c.due("fault() behind another", x.fault(), 7);
        Checks.feedText(x, "term 5;");
        c.due("fault() behind feed", x.fault(), 7);
        c.due("adopt(6)", x.adopt(6), -1);
        c.due("fault() is n if more must come", x.fault(), 6);
        for (int i = 0; i < 19; i++) {
            x.adopt(0);
        }
        c.due("fault() of a sound one", x.fault(), -1);
        Checks.adoptText(x, "lost");
        c.due("fault()", x.fault(), 4);
        c.due("the 20th", x.adopt(0), 19);
        c.due("fault()", x.fault(), -1);
        c.due("the 21st", x.adopt(0), -3);
        c.due("fault()", x.fault(), -1);

        StaplePort y = new StaplePort();
        for (int i = 0; i < 20; i++) {
            y.adopt(0);
        }
        Checks.feedText(y, "term 1;");
        y.adopt(7);
        c.due("fault() behind a -3", y.fault(), -1);
    }

    private static void promise8Undo(Checks c) {
        StaplePort x = new StaplePort();
        c.due("undo(0) of none", x.undo(0), false);
        x.adopt(0);
        x.adopt(0);
        c.due("undo(2)", x.undo(2), false);
        c.due("undo(-1)", x.undo(-1), false);
        c.due("undo most", x.undo(Integer.MAX_VALUE), false);
        c.due("undo least", x.undo(Integer.MIN_VALUE), false);
        c.due("force(0)", x.force(0), 1);
        c.due("undo(1)", x.undo(1), true);
        c.due("undo(1) again", x.undo(1), false);
        c.due("force(0)", x.force(0), 0);
        c.due("undo(0)", x.undo(0), true);
        c.due("undo(0) again", x.undo(0), false);
        c.due("force(0)", x.force(0), -1);
        c.due("STATUTES", x.count(2), 2);
        c.due("adopt behind undo", x.adopt(0), 2);
        c.due("force(0)", x.force(0), 2);
    }

    private static void promise9Force(Checks c) {
        StaplePort x = new StaplePort();
        x.day(10);
        x.adopt(0);
        x.day(20);
        x.adopt(0);
        x.adopt(0);
        x.day(30);
        x.adopt(0);
        int[][] due = {{0, -1}, {9, -1}, {10, 0}, {19, 0}, {20, 2}, {29, 2}, {30, 3}, {31, 3}, {3000, 3},
            {3001, -1}, {-1, -1}, {Integer.MAX_VALUE, -1}, {Integer.MIN_VALUE, -1}};
        for (int[] row : due) {
            c.due("force(" + row[0] + ")", x.force(row[0]), row[1]);
        }
        x.undo(2);
        c.due("force(20), 2 undone", x.force(20), 1);
        c.due("force(30), 2 undone", x.force(30), 3);
        x.undo(1);
        c.due("force(20), 1 and 2 undone", x.force(20), 0);
        x.undo(3);
        c.due("force(3000), 0 left", x.force(3000), 0);
        x.day(40);
        c.due("force(40), 0 left", x.force(40), 0);
        x.undo(0);
        c.due("force(40), none left", x.force(40), -1);
    }

    private static String repeated(String text, int times) {
        return text.repeat(times);
    }

    private StatuteTest() {
    }
}
