/** Promises 10 to 14 at their edges, a test for each sentence: licence, left, bring, custom, half. */
public final class LotEdgeTest {
    public static void main(String[] args) {
        Checks c = new Checks("LotEdgeTest");
        promise10Sacks(c);
        promise10MerchantsAndSorts(c);
        promise10UpTo40(c);
        promise11NoneSuch(c);
        promise11DownToZero(c);
        promise12Sacks(c);
        promise12NotAsTold(c);
        promise12AsManySacksLeft(c);
        promise12ItsMerchantAndSort(c);
        promise12TheFirstOneFirst(c);
        promise12FortyLicences(c);
        promise12FreeThen(c);
        promise12UpTo150(c);
        promise12TheFirstOf(c);
        promise13NoneSuch(c);
        promise13Once(c);
        promise13ABondIfAboveZero(c);
        promise13DueTermDaysFromToday(c);
        promise13TheStatuteInForceToday(c);
        promise14Halves(c);
        promise14NotCustomed(c);
        promise14NoSuchHalf(c);
        c.end();
    }

    private static final Script THREE_MERCHANTS = new Script().merchants(3);

    /** FORBIDDEN is SORT 1; with a LICENCE of merchant 0 for each of the numbers of sacks. */
    private static Script licences(int... sacks) {
        return new Script().merchants(3).adopt("forbid sort 1; duty is 5;")
                .times(sacks.length, i -> x -> x.licence(0, 1, sacks[i]));
    }

    private static void left(Checks c, StaplePort x, int... due) {
        for (int i = 0; i < due.length; i++) {
            c.due("left(" + i + ")", x.left(i), due[i]);
        }
    }

    private static void promise10Sacks(Checks c) {
        c.says("A LICENCE (1 to 500 sacks): its number.");
        c.range("licence of sacks", 1, 500, n -> THREE_MERCHANTS.port().licence(0, 0, n), n -> 0, -1);
        c.range("left of sacks", 1, 500, n -> {
            StaplePort x = THREE_MERCHANTS.port();
            x.licence(0, 0, n);
            return x.left(0);
        }, n -> n, -1);
    }

    private static void promise10MerchantsAndSorts(Checks c) {
        c.says("NONE, doing nothing: not as told");
        c.range("licence of merchant", 0, 2, n -> THREE_MERCHANTS.port().licence(n, 0, 1), n -> 0, -1);
        c.range("licence of sort", 0, 3, n -> THREE_MERCHANTS.port().licence(0, n, 1), n -> 0, -1);
        c.due("licence without merchants", new StaplePort().licence(0, 0, 1), -1);
        Script twenty = new Script().merchants(20);
        c.range("licence of one of 20", 0, 19, n -> twenty.port().licence(n, 0, 1), n -> 0, -1);
    }

    private static void promise10UpTo40(Checks c) {
        c.says("NONE, doing nothing: not as told, 40 are there.");
        StaplePort x = THREE_MERCHANTS.port();
        for (int i = 0; i < 40; i++) {
            c.due("one that is refused", x.licence(0, 4, 1), -1);
            c.due("licence " + i, x.licence(i % 3, i % 4, i + 1), i);
        }
        c.due("the 41st", x.licence(0, 0, 1), -1);
        c.due("LICENCES", x.count(3), 40);
        for (int i = 0; i < 40; i++) {
            c.due("left(" + i + ")", x.left(i), i + 1);
        }
        c.due("left(40)", x.left(40), -1);
    }

    private static void promise11NoneSuch(Checks c) {
        c.says("Sacks left of a LICENCE. NONE: none such.");
        c.due("left(0) of none", new StaplePort().left(0), -1);
        c.range("left of three", 0, 2, i -> licences(7, 8, 9).port().left(i), i -> 7 + i, -1);
        Script forty = new Script().merchants(1).times(40, i -> x -> x.licence(0, 0, 100 + i));
        c.range("left of 40", 0, 39, i -> forty.port().left(i), i -> 100 + i, -1);
    }

    private static void promise11DownToZero(Checks c) {
        c.says("Sacks left of a LICENCE.");
        StaplePort x = licences(500).port();
        x.bring(0, 0, 1, 499);
        left(c, x, 1);
        x.bring(0, 0, 1, 1);
        left(c, x, 0, -1);
        x.bring(0, 0, 0, 1);
        left(c, x, 0);
    }

    private static void promise12Sacks(Checks c) {
        c.says("A LOT (1 to 500 sacks): its number.");
        c.range("bring of sacks", 1, 500, n -> THREE_MERCHANTS.port().bring(0, 0, 0, n), n -> 0, -2);
        c.range("sacks brought", 1, 500, n -> {
            StaplePort x = THREE_MERCHANTS.port();
            x.bring(0, 0, 0, n);
            return x.lot(0, 3);
        }, n -> n, -1);
    }

    private static void promise12NotAsTold(Checks c) {
        c.says("Nothing is done at the first of: -2 not as told");
        c.due("bring without merchants", new StaplePort().bring(0, 0, 0, 1), -2);
        c.range("bring of merchant", 0, 2, n -> THREE_MERCHANTS.port().bring(n, 0, 0, 1), n -> 0, -2);
        c.range("bring of shire", 0, 7, n -> THREE_MERCHANTS.port().bring(0, n, 0, 1), n -> 0, -2);
        c.range("bring of sort", 0, 3, n -> THREE_MERCHANTS.port().bring(0, 0, n, 1), n -> 0, -2);
        Script twenty = new Script().merchants(20);
        c.range("bring of one of 20", 0, 19, n -> twenty.port().bring(n, 0, 0, 1), n -> 0, -2);
    }

    private static void promise12AsManySacksLeft(Checks c) {
        c.says("is brought if the LICENCES of its MERCHANT for its SORT have as many sacks left");
        c.due("no LICENCE", licences().port().bring(0, 0, 1, 1), -3);
        c.due("one less", licences(10).port().bring(0, 0, 1, 9), 0);
        c.due("as many", licences(10).port().bring(0, 0, 1, 10), 0);
        c.due("one more", licences(10).port().bring(0, 0, 1, 11), -3);
        c.due("as many by three", licences(1, 2, 3).port().bring(0, 0, 1, 6), 0);
        c.due("one more than three have", licences(1, 2, 3).port().bring(0, 0, 1, 7), -3);
        c.due("500 of 500", licences(500).port().bring(0, 0, 1, 500), 0);
        c.due("500 of 499", licences(499).port().bring(0, 0, 1, 500), -3);
        StaplePort x = licences(4).port();
        c.due("4 of 4", x.bring(0, 0, 1, 4), 0);
        c.due("1 of 0", x.bring(0, 0, 1, 1), -3);
        left(c, x, 0);
    }

    private static void promise12ItsMerchantAndSort(Checks c) {
        c.says("the LICENCES of its MERCHANT for its SORT");
        Script s = new Script().merchants(3).adopt("forbid;");
        s.add(x -> x.licence(0, 1, 9)).add(x -> x.licence(1, 2, 9)).add(x -> x.licence(0, 2, 8));
        StaplePort x = s.port();
        c.due("neither", x.bring(2, 0, 3, 1), -3);
        c.due("the merchant alone", x.bring(1, 0, 1, 1), -3);
        c.due("the sort alone", x.bring(2, 0, 2, 1), -3);
        c.due("both, not enough", x.bring(0, 0, 2, 9), -3);
        left(c, x, 9, 9, 8);
        c.due("both", x.bring(0, 0, 2, 8), 0);
        left(c, x, 9, 9, 0);
        c.due("any shire", x.bring(1, 7, 2, 9), 1);
        left(c, x, 9, 0, 0);
    }

    private static void promise12TheFirstOneFirst(Checks c) {
        c.says("they are used, the first one first");
        StaplePort x = licences(10, 20, 30).port();
        x.bring(0, 0, 1, 9);
        left(c, x, 1, 20, 30);
        x.bring(0, 0, 1, 1);
        left(c, x, 0, 20, 30);
        x.bring(0, 0, 1, 21);
        left(c, x, 0, 0, 29);
        x.bring(0, 0, 1, 29);
        left(c, x, 0, 0, 0);
        StaplePort y = licences(10, 20, 30).port();
        y.bring(0, 0, 1, 31);
        left(c, y, 0, 0, 29);
        StaplePort z = licences(10, 20, 30).port();
        z.bring(0, 0, 1, 30);
        left(c, z, 0, 0, 30);
    }

    private static void promise12FortyLicences(Checks c) {
        c.says("LICENCES, up to 40");
        Script forty = licences().times(40, i -> x -> x.licence(0, 1, 1));
        c.due("one more than 40 have", forty.port().bring(0, 0, 1, 41), -3);
        StaplePort x = forty.port();
        c.due("39 of 40", x.bring(0, 0, 1, 39), 0);
        c.due("left(38)", x.left(38), 0);
        c.due("left(39)", x.left(39), 1);
        c.due("the last", x.bring(0, 0, 1, 1), 1);
        c.due("left(39)", x.left(39), 0);
        StaplePort y = licences().times(40, i -> z -> z.licence(0, 1, 500)).port();
        for (int i = 0; i < 40; i++) {
            c.due("500 by each of 40", y.bring(0, 0, 1, 500), i);
            c.due("left(" + i + ")", y.left(i), 0);
        }
        c.due("and none more", y.bring(0, 0, 1, 1), -3);
    }

    private static void promise12FreeThen(Checks c) {
        c.says("it's FREE then .. its DUTY by the STATUTE in force TODAY (of a FREE one 0)");
        StaplePort x = licences(10).port();
        x.bring(0, 0, 1, 3);
        x.bring(0, 0, 0, 3);
        x.undo(0);
        c.due("bring of SORT 1, not FORBIDDEN", x.bring(0, 0, 1, 3), 2);
        left(c, x, 7);
        Checks.adoptText(x, "duty is 999; term 5;");
        int[] free = {1, 0, 0};
        for (int lot = 0; lot < 3; lot++) {
            c.due("FREE, lot " + lot, x.lot(lot, 5), free[lot]);
            c.due("custom(" + lot + ")", x.custom(lot), free[lot] == 1 ? 0 : 2997);
            c.due("BOND, lot " + lot, x.lot(lot, 8), 1 - free[lot]);
            c.due("due, lot " + lot, x.lot(lot, 9), free[lot] == 1 ? -1 : 5);
        }
    }

    private static void promise12UpTo150(Checks c) {
        c.says("-4 there are 150");
        StaplePort x = THREE_MERCHANTS.port();
        for (int i = 0; i < 150; i++) {
            c.due("one that is refused", x.bring(0, 0, 0, 0), -2);
            c.due("lot " + i, x.bring(i % 3, i % 8, i % 4, i + 1), i);
        }
        c.due("the 151st", x.bring(0, 0, 0, 1), -4);
        c.due("LOTS", x.count(4), 150);
        c.due("sacks of the 150th", x.lot(149, 3), 150);
        c.due("lot(150, 3)", x.lot(150, 3), -1);
        c.due("custom(149)", x.custom(149), 0);
        c.due("custom(150)", x.custom(150), -1);
        c.due("the 151st, when one is CUSTOMED", x.bring(0, 0, 0, 1), -4);
    }

    private static void promise12TheFirstOf(Checks c) {
        c.says("Nothing is done at the first of: -2 not as told; -3 FORBIDDEN, and LICENCES don't do; -4");
        StaplePort x = licences(5).times(150, i -> y -> y.bring(0, 0, 0, 1)).port();
        c.due("-2 ahead of all", x.bring(0, 0, 1, 501), -2);
        c.due("-2 ahead of all", x.bring(3, 0, 1, 6), -2);
        c.due("-3 ahead of -4", x.bring(0, 0, 1, 6), -3);
        c.due("-4, LICENCES would do", x.bring(0, 0, 1, 5), -4);
        c.due("-4, not FORBIDDEN", x.bring(0, 0, 0, 5), -4);
        left(c, x, 5);
        c.due("LOTS", x.count(4), 150);
    }

    private static void promise13NoneSuch(Checks c) {
        c.says("A LOT is CUSTOMED: its DUTY. NONE, doing nothing: none such");
        c.due("custom(0) of none", THREE_MERCHANTS.port().custom(0), -1);
        Script three = new Script().merchants(1).adopt("duty is 5;")
                .bring(new int[][] {{0, 0, 1}, {0, 0, 2}, {0, 0, 3}});
        c.range("custom of one of three", 0, 2, lot -> three.port().custom(lot), lot -> 5 * (lot + 1), -1);
        StaplePort x = three.port();
        x.custom(1);
        for (int lot = 0; lot < 3; lot++) {
            c.due("CUSTOMED, lot " + lot, x.lot(lot, 6), lot == 1 ? 1 : 0);
        }
    }

    private static void promise13Once(Checks c) {
        c.says("CUSTOMED, once .. NONE, doing nothing: none such, it is.");
        StaplePort x = new Script().merchants(1).adopt("duty is 5; term 4;").bring(new int[] {0, 0, 3}).port();
        c.due("custom(0)", x.custom(0), 15);
        c.due("custom(0) again", x.custom(0), -1);
        x.day(7);
        Checks.adoptText(x, "duty is 6; term 9;");
        c.due("custom(0) by another STATUTE", x.custom(0), -1);
        int[] due = {15, 1, 4};
        for (int i = 0; i < 3; i++) {
            c.due("lot(0, " + (7 + i) + ")", x.lot(0, 7 + i), due[i]);
        }
        c.due("the day", x.lot(0, 14), 0);
        x.pay(0, 0, 15);
        c.due("custom(0) when it is paid", x.custom(0), -1);
        c.due("BOND", x.lot(0, 8), 2);
    }

    private static void promise13ABondIfAboveZero(Checks c) {
        c.says("A BOND, if that is above 0");
        int[] duties = {0, 1, 999};
        for (int duty : duties) {
            StaplePort x = new Script().merchants(1).adopt("duty is " + duty + ";").bring(new int[] {0, 0, 1}).port();
            c.due("BOND ahead of custom", x.lot(0, 8), 0);
            c.due("DUTY", x.custom(0), duty);
            c.due("BOND of DUTY " + duty, x.lot(0, 8), duty > 0 ? 1 : 0);
            c.due("open ones", x.count(8), duty > 0 ? 1 : 0);
            c.due("pay on it", x.pay(0, 0, 999), duty > 0 ? 999 - duty : -1);
        }
    }

    private static void promise13DueTermDaysFromToday(Checks c) {
        c.says("due TERM days from TODAY on");
        int[] days = {0, 1, 2001, 2002, 3000};
        int[] terms = {0, 1, 999};
        for (int day : days) {
            for (int term : terms) {
                Script s = new Script().merchants(1).adopt("duty is 1; term " + term + ";").bring(new int[] {0, 0, 1});
                StaplePort x = s.day(day).customUpTo(0).port();
                c.due("due on day " + day + " by term " + term, x.lot(0, 9), day + term);
                c.due("CUSTOMED on", x.lot(0, 14), day);
                c.due("LATE on that day", x.lot(0, 11), 0);
            }
        }
    }

    private static void promise13TheStatuteInForceToday(Checks c) {
        c.says("its DUTY by the STATUTE in force TODAY");
        StaplePort x = new Script().merchants(1).times(5, i -> y -> y.bring(0, 0, 0, 10)).port();
        c.due("none yet", x.custom(0), 0);
        x.day(5);
        Checks.adoptText(x, "duty is 1;");
        c.due("one of TODAY", x.custom(1), 10);
        x.day(6);
        c.due("one of yesterday", x.custom(2), 10);
        Checks.adoptText(x, "duty is 2;");
        c.due("the latest of TODAY", x.custom(3), 20);
        x.undo(1);
        c.due("when it is UNDONE", x.custom(4), 10);
    }

    private static void promise14Halves(Checks c) {
        c.says("1,000 times the number and the rest of 37 times it and 11 by 997; and likewise of 53 times it and 29");
        Script s = new Script().merchants(1).times(150, i -> x -> x.bring(0, 0, 0, 1)).customUpTo(149);
        StaplePort x = s.port();
        StaplePort y = s.port();
        int first = 11;
        int second = 29;
        for (int lot = 0; lot < 150; lot++) {
            StaplePort asked = lot < 75 ? x : y;
            c.due("half(" + lot + ", 0)", asked.half(lot, 0), 1000 * lot + first);
            c.due("half(" + lot + ", 1)", asked.half(lot, 1), 1000 * lot + second);
            first = first + 37 < 997 ? first + 37 : first + 37 - 997;
            second = second + 53 < 997 ? second + 53 : second + 53 - 997;
        }
        // The last one ahead of each wrap-around, the first one behind it, and the last lot.
        int[][] due = {{18, 18677, 18983}, {19, 19714, 19039}, {26, 26973, 26410}, {27, 27013, 27463},
            {53, 53975, 53844}, {54, 54015, 54897}, {149, 149539, 149947}};
        for (int[] row : due) {
            c.due("half(" + row[0] + ", 0)", y.half(row[0], 0), row[1]);
            c.due("half(" + row[0] + ", 1)", y.half(row[0], 1), row[2]);
        }
        c.due("half(150, 0)", y.half(150, 0), -1);
        c.due("half(-1, 0)", y.half(-1, 0), -1);
    }

    private static void promise14NotCustomed(Checks c) {
        c.says("NONE: the LOT isn't CUSTOMED");
        StaplePort x = new Script().merchants(1).bring(new int[] {0, 0, 1}, new int[] {0, 0, 1}).port();
        c.due("half(1, 0)", x.half(1, 0), -1);
        c.due("half(1, 1)", x.half(1, 1), -1);
        x.custom(0);
        c.due("half(1, 0), lot 0 is CUSTOMED", x.half(1, 0), -1);
        x.custom(1);
        c.due("half(1, 0)", x.half(1, 0), 1048);
        c.due("half(1, 1)", x.half(1, 1), 1082);
        c.range("half of one of two", 0, 1, lot -> x.half(lot, 0), lot -> lot == 0 ? 11 : 1048, -1);
    }

    private static void promise14NoSuchHalf(Checks c) {
        c.says("A COCKET's HALF (0, 1). NONE: .. no such HALF.");
        StaplePort x = new Script().merchants(1).bring(new int[] {0, 0, 1}).customUpTo(0).port();
        c.range("half(0, which)", 0, 1, which -> x.half(0, which), which -> which == 0 ? 11 : 29, -1);
    }

    private LotEdgeTest() {
    }
}
