/** Promises 10 to 18: licence, left, bring, custom, half, rate, pay, lot, over. */
public final class LotTest {
    private static final int[] FAR = {Integer.MIN_VALUE, -1000, -1, 1000000000, Integer.MAX_VALUE};

    public static void main(String[] args) {
        Checks c = new Checks("LotTest");
        promise10Licence(c);
        promise11Left(c);
        promise12Bring(c);
        promise12Licences(c);
        promise12Order(c);
        promise13Custom(c);
        promise14Half(c);
        promise15Rate(c);
        promise16Pay(c);
        promise16Rates(c);
        promise16Refused(c);
        promise17Lot(c);
        promise17Late(c);
        promise18Over(c);
        c.end();
    }

    private static void promise10Licence(Checks c) {
        StaplePort x = Checks.portWithMerchants(2);
        c.due("licence of no merchant", x.licence(2, 0, 1), -1);
        c.due("licence of merchant -1", x.licence(-1, 0, 1), -1);
        c.due("licence of sort 4", x.licence(0, 4, 1), -1);
        c.due("licence of sort -1", x.licence(0, -1, 1), -1);
        c.due("licence of 0 sacks", x.licence(0, 0, 0), -1);
        c.due("licence of 501 sacks", x.licence(0, 0, 501), -1);
        for (int far : FAR) {
            c.due("licence(" + far + ", 0, 1)", x.licence(far, 0, 1), -1);
            c.due("licence(0, " + far + ", 1)", x.licence(0, far, 1), -1);
            c.due("licence(0, 0, " + far + ")", x.licence(0, 0, far), -1);
        }
        c.due("LICENCES", x.count(3), 0);
        c.due("licence of 500", x.licence(1, 3, 500), 0);
        c.due("licence of 1", x.licence(0, 0, 1), 1);
        for (int i = 2; i < 40; i++) {
            c.due("licence " + i, x.licence(i % 2, i % 4, i), i);
            c.due("LICENCES", x.count(3), i + 1);
        }
        c.due("the 41st", x.licence(0, 0, 1), -1);
        c.due("LICENCES", x.count(3), 40);
        c.due("left(0)", x.left(0), 500);
        c.due("left(1)", x.left(1), 1);
        c.due("left(39)", x.left(39), 39);
    }

    private static void promise11Left(Checks c) {
        StaplePort x = Checks.portWithMerchants(2);
        c.due("left(0) of none", x.left(0), -1);
        x.licence(0, 2, 10);
        x.licence(0, 2, 5);
        c.due("left(2)", x.left(2), -1);
        for (int far : FAR) {
            c.due("left(" + far + ")", x.left(far), -1);
        }
        c.due("bring that is not FORBIDDEN", x.bring(0, 0, 2, 3), 0);
        c.due("left(0)", x.left(0), 10);
        Checks.adoptText(x, "forbid sort 2;");
        x.bring(0, 0, 2, 4);
        c.due("left(0)", x.left(0), 6);
        c.due("left(1)", x.left(1), 5);
        x.bring(0, 0, 2, 6);
        c.due("left(0)", x.left(0), 0);
        c.due("left(1)", x.left(1), 5);
        x.bring(0, 0, 2, 1);
        c.due("left(1)", x.left(1), 4);
    }

    private static void promise12Bring(Checks c) {
        StaplePort x = Checks.portWithMerchants(2);
        c.due("bring of no merchant", x.bring(2, 0, 0, 1), -2);
        c.due("bring of merchant -1", x.bring(-1, 0, 0, 1), -2);
        c.due("bring of shire 8", x.bring(0, 8, 0, 1), -2);
        c.due("bring of shire -1", x.bring(0, -1, 0, 1), -2);
        c.due("bring of sort 4", x.bring(0, 0, 4, 1), -2);
        c.due("bring of sort -1", x.bring(0, 0, -1, 1), -2);
        c.due("bring of 0 sacks", x.bring(0, 0, 0, 0), -2);
        c.due("bring of 501 sacks", x.bring(0, 0, 0, 501), -2);
        for (int far : FAR) {
            c.due("bring(" + far + ", 0, 0, 1)", x.bring(far, 0, 0, 1), -2);
            c.due("bring(0, " + far + ", 0, 1)", x.bring(0, far, 0, 1), -2);
            c.due("bring(0, 0, " + far + ", 1)", x.bring(0, 0, far, 1), -2);
            c.due("bring(0, 0, 0, " + far + ")", x.bring(0, 0, 0, far), -2);
        }
        c.due("LOTS", x.count(4), 0);
        c.due("bring of 500, nothing grown", x.bring(1, 7, 3, 500), 0);
        c.due("bring of 1", x.bring(0, 0, 0, 1), 1);
        for (int i = 2; i < 150; i++) {
            c.due("lot " + i, x.bring(i % 2, i % 8, i % 4, i), i);
        }
        c.due("LOTS", x.count(4), 150);
        c.due("the 151st", x.bring(0, 0, 0, 1), -4);
        c.due("LOTS", x.count(4), 150);
        c.due("sacks of the 150th", x.lot(149, 3), 149);
    }

    private static void promise12Licences(Checks c) {
        StaplePort x = Checks.portWithMerchants(3);
        Checks.adoptText(x, "forbid sort 1; duty is 5;");
        c.due("bring without LICENCE", x.bring(0, 0, 1, 1), -3);
        x.licence(1, 1, 100);
        x.licence(0, 2, 100);
        c.due("bring with others' LICENCES", x.bring(0, 0, 1, 1), -3);
        x.licence(0, 1, 10);
        x.licence(0, 1, 20);
        x.licence(0, 1, 30);
        c.due("bring of more than all", x.bring(0, 0, 1, 61), -3);
        left(c, x, 100, 100, 10, 20, 30);
        c.due("bring over two of them", x.bring(0, 0, 1, 25), 0);
        left(c, x, 100, 100, 0, 5, 30);
        c.due("bring of all that is left", x.bring(0, 7, 1, 35), 1);
        left(c, x, 100, 100, 0, 0, 0);
        c.due("bring of one more", x.bring(0, 0, 1, 1), -3);
        c.due("bring of another sort", x.bring(0, 0, 2, 1), 2);
        c.due("bring of the other merchant", x.bring(1, 0, 1, 100), 3);
        left(c, x, 0, 100, 0, 0, 0);
        int[] free = {1, 1, 0, 1};
        for (int lot = 0; lot < 4; lot++) {
            c.due("FREE of lot " + lot, x.lot(lot, 5), free[lot]);
        }
        c.due("duty of a FREE one", x.custom(0), 0);
        c.due("its BOND", x.lot(0, 8), 0);
        c.due("duty of another", x.custom(2), 5);

        // The statute in force TODAY decides, not one that is UNDONE or was in force before.
        x.undo(0);
        c.due("bring when it is UNDONE", x.bring(0, 0, 1, 1), 4);
        c.due("FREE", x.lot(4, 5), 0);
        x.day(1);
        Checks.adoptText(x, "forbid sort 0;");
        c.due("bring of sort 0", x.bring(0, 0, 0, 1), -3);
        x.day(2);
        Checks.adoptText(x, "");
        c.due("bring of sort 0, later", x.bring(0, 0, 0, 1), 5);
    }

    private static void left(Checks c, StaplePort x, int... due) {
        for (int i = 0; i < due.length; i++) {
            c.due("left(" + i + ")", x.left(i), due[i]);
        }
    }

    private static void promise12Order(Checks c) {
        StaplePort x = Checks.portWithMerchants(1);
        for (int i = 0; i < 150; i++) {
            x.bring(0, 0, 0, 1);
        }
        Checks.adoptText(x, "forbid sort 1;");
        c.due("-2 ahead of -3 and -4", x.bring(0, 0, 1, 501), -2);
        c.due("-3 ahead of -4", x.bring(0, 0, 1, 5), -3);
        x.licence(0, 1, 5);
        c.due("-4", x.bring(0, 0, 1, 5), -4);
        c.due("left(0)", x.left(0), 5);
        c.due("-4 of one not FORBIDDEN", x.bring(0, 0, 0, 5), -4);
    }

    private static void promise13Custom(Checks c) {
        StaplePort x = Checks.portWithMerchants(1);
        c.due("custom(0) of none", x.custom(0), -1);
        x.bring(0, 0, 0, 10);
        x.bring(0, 0, 0, 20);
        x.bring(0, 0, 0, 30);
        for (int far : FAR) {
            c.due("custom(" + far + ")", x.custom(far), -1);
        }
        c.due("custom(3)", x.custom(3), -1);
        c.due("custom without statute", x.custom(0), 0);
        c.due("CUSTOMED", x.lot(0, 6), 1);
        c.due("BOND", x.lot(0, 8), 0);
        c.due("due", x.lot(0, 9), -1);
        c.due("the day", x.lot(0, 14), 0);
        x.day(7);
        Checks.adoptText(x, "duty is 3; term 12;");
        c.due("custom again", x.custom(0), -1);
        c.due("its DUTY", x.lot(0, 7), 0);
        c.due("custom(1)", x.custom(1), 60);
        c.due("DUTY", x.lot(1, 7), 60);
        c.due("BOND", x.lot(1, 8), 1);
        c.due("due", x.lot(1, 9), 19);
        c.due("the day", x.lot(1, 14), 7);
        c.due("the day it was brought", x.lot(1, 4), 0);
        x.day(2999);
        Checks.adoptText(x, "duty is 1; term 999;");
        c.due("custom(1) again", x.custom(1), -1);
        c.due("due stays", x.lot(1, 9), 19);
        c.due("custom(2)", x.custom(2), 30);
        c.due("due behind the last day", x.lot(2, 9), 3998);
    }

    private static void promise14Half(Checks c) {
        StaplePort x = Checks.portWithMerchants(1);
        for (int i = 0; i < 150; i++) {
            x.bring(0, 0, 0, 1);
        }
        int[][] due = {{0, 11, 29}, {1, 1048, 1082}, {2, 2085, 2135}, {18, 18677, 18983}, {19, 19714, 19039},
            {26, 26973, 26410}, {27, 27013, 27463}, {37, 37383, 37993}, {38, 38420, 38049}, {149, 149539, 149947}};
        for (int[] row : due) {
            c.due("half(" + row[0] + ", 0) ahead of custom", x.half(row[0], 0), -1);
            c.due("half(" + row[0] + ", 1) ahead of custom", x.half(row[0], 1), -1);
            x.custom(row[0]);
            c.due("half(" + row[0] + ", 0)", x.half(row[0], 0), row[1]);
            c.due("half(" + row[0] + ", 1)", x.half(row[0], 1), row[2]);
            c.due("half(" + row[0] + ", 2)", x.half(row[0], 2), -1);
            c.due("half(" + row[0] + ", -1)", x.half(row[0], -1), -1);
        }
        c.due("half(150, 0)", x.half(150, 0), -1);
        for (int far : FAR) {
            c.due("half(" + far + ", 0)", x.half(far, 0), -1);
            c.due("half(0, " + far + ")", x.half(0, far), -1);
        }
    }

    private static void promise15Rate(Checks c) {
        StaplePort x = bonds(1);
        c.due("rate of kind 0", x.rate(0, 5, 1), false);
        c.due("rate of kind 4", x.rate(4, 5, 1), false);
        c.due("rate of kind -1", x.rate(-1, 5, 1), false);
        c.due("rate 0 by 1", x.rate(1, 0, 1), false);
        c.due("rate 1 by 0", x.rate(1, 1, 0), false);
        c.due("rate 1001 by 1", x.rate(1, 1001, 1), false);
        c.due("rate 1 by 1001", x.rate(1, 1, 1001), false);
        for (int far : FAR) {
            c.due("rate(" + far + ", 1, 1)", x.rate(far, 1, 1), false);
            c.due("rate(1, " + far + ", 1)", x.rate(1, far, 1), false);
            c.due("rate(1, 1, " + far + ")", x.rate(1, 1, far), false);
        }
        c.due("own coins", x.pay(0, 0, 1), 0);
        c.due("worth", x.lot(0, 10), 1);
        c.due("rate(1, 1000, 1)", x.rate(1, 1000, 1), true);
        c.due("rate(2, 1, 1000)", x.rate(2, 1, 1000), true);
        c.due("rate(3, 1000, 1000)", x.rate(3, 1000, 1000), true);
        x.pay(0, 1, 2);
        c.due("worth", x.lot(0, 10), 2001);
        x.pay(0, 2, 2999);
        c.due("worth", x.lot(0, 10), 2003);
        x.pay(0, 3, 7);
        c.due("worth", x.lot(0, 10), 2010);
        c.due("a refused rate", x.rate(1, 3, 0), false);
        x.pay(0, 1, 1);
        c.due("worth", x.lot(0, 10), 3010);
    }

    /** A port with lots of 500 sacks, all CUSTOMED by a duty of 999: each has a BOND of 499500. */
    private static StaplePort bonds(int lots) {
        StaplePort x = Checks.portWithMerchants(1);
        Checks.adoptText(x, "duty is 999;");
        for (int i = 0; i < lots; i++) {
            x.bring(0, 0, 0, 500);
            x.custom(i);
        }
        return x;
    }

    private static void promise16Pay(Checks c) {
        StaplePort x = Checks.portWithMerchants(1);
        Checks.adoptText(x, "duty is 10;");
        x.bring(0, 0, 0, 10);
        x.bring(0, 0, 0, 10);
        x.bring(0, 0, 0, 10);
        x.custom(0);
        x.custom(1);
        x.custom(2);
        c.due("pay 99 of 100", x.pay(0, 0, 99), 0);
        c.due("BOND", x.lot(0, 8), 1);
        c.due("pay the last", x.pay(0, 0, 1), 0);
        c.due("BOND", x.lot(0, 8), 2);
        c.due("worth", x.lot(0, 10), 100);
        c.due("due, of a paid one", x.lot(0, 9), 0);
        c.due("pay more", x.pay(0, 0, 1), -1);
        c.due("pay 101", x.pay(1, 0, 101), 1);
        c.due("BOND", x.lot(1, 8), 2);
        c.due("worth", x.lot(1, 10), 100);
        x.rate(3, 1000, 1);
        c.due("pay the most", x.pay(2, 3, 100000), 99999900);
        c.due("worth", x.lot(2, 10), 100);
        c.due("paid in all", x.count(10), 300);
        c.due("open", x.count(8), 0);
    }

    private static void promise16Rates(Checks c) {
        StaplePort x = bonds(3);
        c.due("pay without rate", x.pay(0, 1, 100000), 0);
        c.due("worth", x.lot(0, 10), 0);
        x.rate(1, 2, 3);
        c.due("what was paid stays as it was worth", x.lot(0, 10), 0);
        x.pay(0, 1, 1);
        c.due("2/3 is cut", x.lot(0, 10), 0);
        x.pay(0, 1, 1);
        c.due("and cut again", x.lot(0, 10), 0);
        x.pay(0, 1, 2);
        c.due("4/3 is cut", x.lot(0, 10), 1);
        x.pay(0, 1, 3);
        c.due("6/3", x.lot(0, 10), 3);
        x.rate(1, 5, 1);
        x.pay(0, 1, 3);
        c.due("the latest rate", x.lot(0, 10), 18);
        x.day(9);
        x.pay(0, 1, 2);
        c.due("the rate goes on on later days", x.lot(0, 10), 28);
        x.pay(0, 2, 50);
        x.pay(0, 3, 50);
        c.due("other kinds have none", x.lot(0, 10), 28);
        x.rate(2, 1, 7);
        x.rate(3, 7, 1);
        x.pay(0, 2, 50);
        c.due("50/7 is cut", x.lot(0, 10), 35);
        x.pay(0, 3, 50);
        c.due("50 times 7", x.lot(0, 10), 385);
        x.rate(1, 1000, 3);
        c.due("pay 1498000/3", x.pay(1, 1, 1498), 0);
        c.due("worth, cut", x.lot(1, 10), 499333);
        c.due("pay 1000/3", x.pay(1, 1, 1), 166);
        c.due("worth", x.lot(1, 10), 499500);
        c.due("worth on the third", x.lot(2, 10), 0);
        c.due("paid in all", x.count(10), 385 + 499500);
    }

    private static void promise16Refused(Checks c) {
        StaplePort x = bonds(2);
        x.bring(0, 0, 0, 500);
        c.due("pay on no lot", x.pay(3, 0, 5), -1);
        c.due("pay on lot -1", x.pay(-1, 0, 5), -1);
        c.due("pay on one not CUSTOMED", x.pay(2, 0, 5), -1);
        c.due("pay of kind 4", x.pay(0, 4, 5), -1);
        c.due("pay of kind -1", x.pay(0, -1, 5), -1);
        c.due("pay of 0 coins", x.pay(0, 0, 0), -1);
        c.due("pay of 100001 coins", x.pay(0, 0, 100001), -1);
        for (int far : FAR) {
            c.due("pay(" + far + ", 0, 1)", x.pay(far, 0, 1), -1);
            c.due("pay(0, " + far + ", 1)", x.pay(0, far, 1), -1);
            c.due("pay(0, 0, " + far + ")", x.pay(0, 0, far), -1);
        }
        c.due("worth", x.lot(0, 10), 0);
        c.due("pay of 100000 coins", x.pay(0, 0, 100000), 0);
        c.due("worth", x.lot(0, 10), 100000);
        c.due("worth on the other", x.lot(1, 10), 0);
        x.undo(0);
        x.custom(2);
        c.due("pay where the DUTY is 0", x.pay(2, 0, 5), -1);
        c.due("paid in all", x.count(10), 100000);
    }

    private static void promise17Lot(Checks c) {
        StaplePort x = Checks.portWithMerchants(5);
        x.day(11);
        Checks.adoptText(x, "duty sort 3 is 20; forbid man 2; lost ends;");
        x.licence(2, 1, 50);
        x.bring(4, 6, 3, 100);
        x.bring(2, 5, 1, 40);
        int[] first = {4, 6, 3, 100, 11, 0, 0, 0, 0, -1, 0, 0, 0, 0, -1};
        int[] second = {2, 5, 1, 40, 11, 1, 0, 0, 0, -1, 0, 0, 0, 0, -1};
        lotIs(c, x, 0, first);
        lotIs(c, x, 1, second);
        x.day(15);
        x.custom(0);
        x.custom(1);
        x.pay(0, 0, 77);
        x.day(16);
        x.ship(x.fleet(), 500);
        x.ship(0, 500);
        Checks.loadLot(x, 0, 0, 30);
        Checks.loadLot(x, 1, 0, 25);
        Checks.loadLot(x, 0, 1, 40);
        lotIs(c, x, 0, new int[] {4, 6, 3, 100, 11, 0, 1, 2000, 1, 15, 77, 1, 55, 0, 15});
        lotIs(c, x, 1, new int[] {2, 5, 1, 40, 11, 1, 1, 0, 0, -1, 0, 0, 40, 0, 15});
        x.sail(0);
        x.sink(0);
        lotIs(c, x, 0, new int[] {4, 6, 3, 100, 11, 0, 1, 2000, 3, 15, 77, 0, 55, 30, 15});
        lotIs(c, x, 1, new int[] {2, 5, 1, 40, 11, 1, 1, 0, 0, -1, 0, 0, 40, 40, 15});
        c.due("lot(0, 15)", x.lot(0, 15), -1);
        c.due("lot(0, -1)", x.lot(0, -1), -1);
        for (int far : FAR) {
            c.due("lot(0, " + far + ")", x.lot(0, far), -1);
            c.due("lot(" + far + ", 3)", x.lot(far, 3), -1);
        }
        for (int what = 0; what < 15; what++) {
            c.due("lot(2, " + what + ")", x.lot(2, what), -1);
        }
    }

    private static void lotIs(Checks c, StaplePort x, int lot, int[] due) {
        for (int what = 0; what < due.length; what++) {
            c.due("lot(" + lot + ", " + what + ")", x.lot(lot, what), due[what]);
        }
    }

    private static void promise17Late(Checks c) {
        StaplePort x = Checks.portWithMerchants(1);
        Checks.adoptText(x, "duty is 1; term 10;");
        x.bring(0, 0, 0, 5);
        x.bring(0, 0, 0, 5);
        x.custom(0);
        x.custom(1);
        x.day(10);
        c.due("LATE on the day", x.lot(0, 11), 0);
        c.due("LATE ones", x.count(9), 0);
        x.day(11);
        c.due("LATE behind it", x.lot(0, 11), 1);
        c.due("LATE ones", x.count(9), 2);
        x.pay(0, 0, 5);
        c.due("LATE when paid", x.lot(0, 11), 0);
        c.due("LATE ones", x.count(9), 1);
        c.due("open ones", x.count(8), 1);
    }

    private static void promise18Over(Checks c) {
        StaplePort x = Checks.portWithMerchants(2);
        x.day(10);
        Checks.adoptText(x, "duty is 4; forbid sort 3;");
        x.licence(0, 3, 10);
        x.bring(0, 1, 0, 10);
        x.bring(1, 2, 0, 10);
        x.bring(0, 2, 3, 10);
        x.bring(0, 2, 2, 10);
        x.custom(0);
        x.day(20);
        x.custom(1);
        x.custom(2);
        overs(c, x, 0, 0, 0, 0);
        Checks.adoptText(x, "duty man 1 is 1; duty is 9; duty sort 3 is 8;");
        overs(c, x, 0, -30, 0, 0);
        x.day(30);
        Checks.adoptText(x, "duty is 100;");
        overs(c, x, 0, -30, 0, 0);
        x.custom(3);
        overs(c, x, 0, -30, 0, 0);
        x.undo(2);
        overs(c, x, 0, -30, 0, 90 - 1000);
        x.undo(1);
        overs(c, x, 0, 0, 0, 40 - 1000);
        x.undo(0);
        overs(c, x, -40, -40, 0, -1000);
        Checks.adoptText(x, "duty sort 2 is 101;");
        overs(c, x, -40, -40, 0, 10);
        c.due("over(4)", x.over(4), 0);
        for (int far : FAR) {
            c.due("over(" + far + ")", x.over(far), 0);
        }
    }

    private static void overs(Checks c, StaplePort x, int... due) {
        for (int lot = 0; lot < due.length; lot++) {
            c.due("over(" + lot + ")", x.over(lot), due[lot]);
        }
    }

    private LotTest() {
    }
}
