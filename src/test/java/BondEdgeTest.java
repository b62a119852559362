/** Promises 15 to 18 at their edges, a test for each sentence: rate, pay, lot, over. */
public final class BondEdgeTest {
    public static void main(String[] args) {
        Checks c = new Checks("BondEdgeTest");
        promise15Kinds(c);
        promise15Numbers(c);
        promise15TheLatest(c);
        promise16Coins(c);
        promise16Kinds(c);
        promise16ItsOwnAreWorthOne(c);
        promise16Cut(c);
        promise16ZeroWithoutARate(c);
        promise16WorthItsDuty(c);
        promise16WhatIsAboveIsGivenBack(c);
        promise16NoneThatIsOpen(c);
        promise17NoneSuch(c);
        promise17TheLeastAndTheMost(c);
        promise17NoneWithoutABond(c);
        promise17Late(c);
        promise17LateOnlyWhileOpen(c);
        promise17LoadedAndLost(c);
        promise18NoneSuch(c);
        promise18OnThatDayAsKnownToday(c);
        promise18ZeroOfAFreeOne(c);
        promise18BothWays(c);
        c.end();
    }

    /** One lot with a BOND of this many sacks by a duty of 1: so many coins are due. */
    private static Script bond(int sacks) {
        return new Script().merchants(1).adopt("duty is 1; term 10;").bring(new int[] {0, 0, sacks}).customUpTo(0);
    }

    /** One lot with the greatest BOND there is: of 499,500. */
    private static Script greatBond() {
        return new Script().merchants(1).adopt("duty is 999;").bring(new int[] {0, 0, 500}).customUpTo(0);
    }

    /** What so many coins of kind 1 are worth by a RATE of so many by so many. */
    private static int worth(int upper, int lower, int coins) {
        StaplePort x = greatBond().port();
        x.rate(1, upper, lower);
        int back = x.pay(0, 1, coins);
        return x.lot(0, 10) + back;
    }

    private static void promise15Kinds(Checks c) {
        c.says("A RATE of a kind (1 to 3; both numbers 1 to 1,000): true; false, doing nothing: not as told.");
        c.range("rate of kind", 1, 3, kind -> Checks.bit(new StaplePort().rate(kind, 1, 1)), kind -> 1, 0);
        for (int kind = 1; kind <= 3; kind++) {
            StaplePort x = greatBond().port();
            x.rate(kind, 5, 1);
            for (int paid = 0; paid <= 3; paid++) {
                int before = x.lot(0, 10);
                x.pay(0, paid, 2);
                int due = paid == 0 ? 2 : paid == kind ? 10 : 0;
                c.due("worth of kind " + paid + " by a RATE of " + kind, x.lot(0, 10) - before, due);
            }
        }
    }

    private static void promise15Numbers(Checks c) {
        c.says("both numbers 1 to 1,000");
        c.range("the upper", 1, 1000, upper -> Checks.bit(new StaplePort().rate(1, upper, 1)), n -> 1, 0);
        c.range("the lower", 1, 1000, lower -> Checks.bit(new StaplePort().rate(1, 1, lower)), n -> 1, 0);
        c.due("0 by 0", new StaplePort().rate(1, 0, 0), false);
        c.due("1000 by 1000", new StaplePort().rate(3, 1000, 1000), true);
        c.due("1001 by 1001", new StaplePort().rate(3, 1001, 1001), false);
    }

    private static void promise15TheLatest(Checks c) {
        c.says("the latest RATE");
        StaplePort x = greatBond().port();
        x.rate(1, 2, 1);
        x.rate(1, 3, 1);
        x.pay(0, 1, 10);
        c.due("worth by the second", x.lot(0, 10), 30);
        x.rate(1, 4, 0);
        x.rate(1, 1001, 1);
        x.rate(4, 4, 1);
        x.pay(0, 1, 10);
        c.due("worth behind refused ones", x.lot(0, 10), 60);
        x.day(3000);
        x.pay(0, 1, 10);
        c.due("worth on a later day", x.lot(0, 10), 90);
        x.rate(1, 1, 1);
        c.due("what was paid stays", x.lot(0, 10), 90);
        x.pay(0, 1, 10);
        c.due("worth by the third", x.lot(0, 10), 100);
    }

    private static void promise16Coins(Checks c) {
        c.says("Coins (1 to 100,000) of a kind are paid on a BOND");
        c.range("pay of coins", 1, 100000, coins -> greatBond().port().pay(0, 0, coins), coins -> 0, -1);
        c.range("worth of coins", 1, 100000, coins -> {
            StaplePort x = greatBond().port();
            x.pay(0, 0, coins);
            return x.lot(0, 10);
        }, coins -> coins, 0);
    }

    private static void promise16Kinds(Checks c) {
        c.says("COINS of kinds 0 (its own: worth 1) to 3 .. no such kind");
        c.range("pay of kind", 0, 3, kind -> bond(5).port().pay(0, kind, 7), kind -> kind == 0 ? 2 : 0, -1);
    }

    private static void promise16ItsOwnAreWorthOne(Checks c) {
        c.says("0 (its own: worth 1)");
        StaplePort x = greatBond().port();
        x.rate(0, 1000, 1);
        x.pay(0, 0, 3);
        c.due("worth of 3", x.lot(0, 10), 3);
        for (int i = 0; i < 4; i++) {
            c.due("pay the most", x.pay(0, 0, 100000), 0);
        }
        c.due("worth", x.lot(0, 10), 400003);
        c.due("BOND", x.lot(0, 8), 1);
        c.due("pay the most once more", x.pay(0, 0, 100000), 503);
    }

    private static void promise16Cut(Checks c) {
        c.says("worth coins times the upper by the lower number of the latest RATE, cut");
        int[][] due = {{1, 1, 1, 1}, {1, 2, 1, 0}, {1, 2, 2, 1}, {1, 2, 3, 1}, {1, 3, 2, 0}, {1, 3, 3, 1}, {2, 3, 2, 1},
            {999, 1000, 1, 0}, {999, 1000, 1000, 999}, {999, 1000, 1001, 999}, {1000, 999, 1, 1}, {1, 1000, 999, 0},
            {1, 1000, 1000, 1}, {1, 1000, 1999, 1}, {1, 1000, 100000, 100}, {1000, 1, 1, 1000},
            {1000, 1, 100000, 100000000}, {1000, 3, 100000, 33333333}, {1000, 1000, 100000, 100000},
            {999, 7, 99999, 14271285}};
        for (int[] row : due) {
            c.due(row[2] + " by " + row[0] + "/" + row[1], worth(row[0], row[1], row[2]), row[3]);
        }
        // What is paid is cut each time, not what all of it is worth.
        StaplePort x = greatBond().port();
        x.rate(2, 1, 2);
        for (int i = 0; i < 10; i++) {
            x.pay(0, 2, 3);
        }
        c.due("ten times 3/2", x.lot(0, 10), 10);
    }

    private static void promise16ZeroWithoutARate(Checks c) {
        c.says("(0 without one)");
        for (int kind = 1; kind <= 3; kind++) {
            StaplePort x = bond(1).port();
            c.due("pay of kind " + kind, x.pay(0, kind, 100000), 0);
            c.due("worth", x.lot(0, 10), 0);
            c.due("BOND", x.lot(0, 8), 1);
            x.rate(kind, 1, 1);
            c.due("worth behind a RATE", x.lot(0, 10), 0);
            c.due("pay by it", x.pay(0, kind, 1), 0);
            c.due("BOND", x.lot(0, 8), 2);
        }
    }

    private static void promise16WorthItsDuty(Checks c) {
        c.says("A BOND ends when all that was paid on it is worth its DUTY");
        int[][] due = {{99, 0, 1, 99}, {100, 0, 2, 100}, {101, 1, 2, 100}};
        for (int[] row : due) {
            StaplePort x = bond(100).port();
            c.due("pay " + row[0] + " of 100", x.pay(0, 0, row[0]), row[1]);
            c.due("BOND", x.lot(0, 8), row[2]);
            c.due("worth", x.lot(0, 10), row[3]);
            c.due("open ones", x.count(8), 2 - row[2]);
        }
        StaplePort y = bond(100).port();
        y.pay(0, 0, 99);
        y.rate(1, 1, 2);
        c.due("pay what is worth 0", y.pay(0, 1, 1), 0);
        c.due("BOND", y.lot(0, 8), 1);
        c.due("pay what is worth 1", y.pay(0, 1, 3), 0);
        c.due("BOND", y.lot(0, 8), 2);
        StaplePort z = bond(1).port();
        c.due("the least BOND", z.pay(0, 0, 1), 0);
        c.due("BOND", z.lot(0, 8), 2);
    }

    private static void promise16WhatIsAboveIsGivenBack(Checks c) {
        c.says("what is given back (0: nothing is above)");
        StaplePort x = bond(1).port();
        x.rate(1, 1000, 1);
        c.due("the most that can be given back", x.pay(0, 1, 100000), 99999999);
        c.due("what stays is worth", x.lot(0, 10), 1);
        c.due("in all", x.count(10), 1);
        StaplePort y = bond(100).port();
        y.rate(1, 7, 3);
        y.pay(0, 0, 60);
        c.due("116 by 40 that are open", y.pay(0, 1, 50), 76);
        c.due("what stays is worth", y.lot(0, 10), 100);
        c.due("in all", y.count(10), 100);
    }

    private static void promise16NoneThatIsOpen(Checks c) {
        c.says("NONE, doing nothing: it has none that is open");
        Script s = new Script().merchants(1).adopt("duty sort 0 is 1; forbid sort 2; lost ends;");
        s.add(x -> x.licence(0, 2, 5)).bring(new int[][] {{0, 0, 5}, {0, 0, 5}, {0, 1, 5}, {0, 2, 5}, {0, 0, 5}});
        s.customUpTo(3).add(x -> x.fleet()).add(x -> x.ship(0, 9)).load(0, 1, 1).add(x -> x.sail(0));
        StaplePort x = s.add(y -> y.sink(0)).add(y -> y.pay(0, 0, 5)).port();
        String[] lots = {"paid", "ended with a SHIP", "of DUTY 0", "FREE", "not CUSTOMED", "none such"};
        for (int lot = 0; lot < lots.length; lot++) {
            c.due("pay on one that is " + lots[lot], x.pay(lot, 0, 1), -1);
        }
        c.due("in all", x.count(10), 5);
        Script two = new Script().merchants(1).adopt("duty is 1;").bring(new int[] {0, 0, 5}, new int[] {0, 0, 4})
                .customUpTo(1);
        c.range("pay on one of two", 0, 1, lot -> two.port().pay(lot, 0, 6), lot -> 1 + lot, -1);
    }

    private static void promise17NoneSuch(Checks c) {
        c.says("NONE where there is none such.");
        for (int what = 0; what <= 14; what++) {
            c.due("lot(0, " + what + ") of none", new StaplePort().lot(0, what), -1);
            StaplePort x = bond(7).port();
            for (int lot : new int[] {-1, 1, Integer.MIN_VALUE, Integer.MAX_VALUE}) {
                c.due("lot(" + lot + ", " + what + ")", x.lot(lot, what), -1);
            }
        }
        int[] due = {0, 0, 0, 7, 0, 0, 1, 7, 1, 10, 0, 0, 0, 0, 0};
        StaplePort x = bond(7).port();
        c.range("lot(0, what)", 0, 14, what -> x.lot(0, what), what -> due[what], -1);
        for (int what = 0; what <= 14; what++) {
            c.due("lot(0, " + what + ")", x.lot(0, what), due[what]);
        }
    }

    private static void promise17TheLeastAndTheMost(Checks c) {
        c.says("Of a LOT: 0 MERCHANT, 1 SHIRE, 2 SORT, 3 sacks, 4 the day it was brought");
        Script s = new Script().merchants(20).times(148, i -> x -> x.bring(1, 1, 1, 2)).day(3000);
        StaplePort x = s.add(y -> y.bring(0, 0, 0, 1)).add(y -> y.bring(19, 7, 3, 500)).port();
        int[][] due = {{1, 1, 1, 2, 0}, {0, 0, 0, 1, 3000}, {19, 7, 3, 500, 3000}};
        int[] lots = {147, 148, 149};
        for (int i = 0; i < lots.length; i++) {
            for (int what = 0; what <= 4; what++) {
                c.due("lot(" + lots[i] + ", " + what + ")", x.lot(lots[i], what), due[i][what]);
            }
        }
    }

    private static void promise17NoneWithoutABond(Checks c) {
        c.says("9 the day it's due (NONE without) .. 14 the day it was CUSTOMED (NONE)");
        Script s = new Script().merchants(1).adopt("duty sort 0 is 1; term 5;").day(40);
        StaplePort x = s.bring(new int[] {0, 0, 5}, new int[] {0, 1, 5}).port();
        for (int lot = 0; lot < 2; lot++) {
            c.due("due ahead of custom", x.lot(lot, 9), -1);
            c.due("CUSTOMED", x.lot(lot, 6), 0);
            c.due("its day", x.lot(lot, 14), -1);
            c.due("BOND", x.lot(lot, 8), 0);
            c.due("LATE", x.lot(lot, 11), 0);
            x.custom(lot);
            c.due("due", x.lot(lot, 9), lot == 0 ? 45 : -1);
            c.due("CUSTOMED", x.lot(lot, 6), 1);
            c.due("its day", x.lot(lot, 14), 40);
            c.due("BOND", x.lot(lot, 8), 1 - lot);
            c.due("LATE", x.lot(lot, 11), 0);
        }
    }

    private static void promise17Late(Checks c) {
        c.says("11 LATE (1: open, TODAY is behind that day)");
        for (int term : new int[] {0, 1, 999}) {
            Script s = new Script().merchants(1).adopt("duty is 1; term " + term + ";").bring(new int[] {0, 0, 5});
            StaplePort x = s.day(50).customUpTo(0).port();
            c.due("LATE at once, term " + term, x.lot(0, 11), 0);
            x.day(50 + term);
            c.due("LATE on the day it's due, term " + term, x.lot(0, 11), 0);
            c.due("those LATE", x.count(9), 0);
            x.day(51 + term);
            c.due("LATE a day later, term " + term, x.lot(0, 11), 1);
            c.due("those LATE", x.count(9), 1);
        }
        StaplePort y = new Script().merchants(1).adopt("duty is 1; term 1;").bring(new int[] {0, 0, 5}).day(2999)
                .customUpTo(0).day(3000).port();
        c.due("due on the last day", y.lot(0, 9), 3000);
        c.due("LATE on the last day", y.lot(0, 11), 0);
    }

    private static void promise17LateOnlyWhileOpen(Checks c) {
        c.says("8 the BOND (0 none, 1 open, 2 paid, 3 ended with a SHIP) .. 11 LATE (1: open");
        Script s = new Script().merchants(1).adopt("duty sort 0 is 1; lost ends;");
        s.bring(new int[][] {{0, 1, 5}, {0, 0, 5}, {0, 0, 5}, {0, 0, 5}}).customUpTo(3);
        s.add(x -> x.fleet()).add(x -> x.ship(0, 5)).load(0, 3, 1).add(x -> x.sail(0)).day(1);
        StaplePort x = s.port();
        int[] late = {0, 1, 1, 1};
        for (int lot = 0; lot < 4; lot++) {
            c.due("LATE, lot " + lot, x.lot(lot, 11), late[lot]);
        }
        x.pay(2, 0, 5);
        x.sink(0);
        for (int lot = 0; lot < 4; lot++) {
            c.due("BOND, lot " + lot, x.lot(lot, 8), lot);
            c.due("LATE, lot " + lot, x.lot(lot, 11), lot == 1 ? 1 : 0);
        }
        c.due("those LATE", x.count(9), 1);
        c.due("those open", x.count(8), 1);
    }

    private static void promise17LoadedAndLost(Checks c) {
        c.says("12 sacks loaded, 13 those LOST");
        Script s = new Script().merchants(1).bring(new int[] {0, 0, 500}).customUpTo(0).add(x -> x.fleet());
        StaplePort x = s.add(y -> y.ship(0, 499)).add(y -> y.ship(0, 1)).port();
        c.due("loaded", x.lot(0, 12), 0);
        Checks.loadLot(x, 0, 0, 499);
        c.due("loaded", x.lot(0, 12), 499);
        Checks.loadLot(x, 1, 0, 1);
        c.due("loaded, all", x.lot(0, 12), 500);
        c.due("LOST", x.lot(0, 13), 0);
        x.sail(0);
        x.sink(1);
        c.due("LOST", x.lot(0, 13), 1);
        x.sink(0);
        c.due("LOST, all", x.lot(0, 13), 500);
        c.due("loaded", x.lot(0, 12), 500);
    }

    private static void promise18NoneSuch(Checks c) {
        c.says("0: none such.");
        c.due("over(0) of none", new StaplePort().over(0), 0);
        StaplePort x = bond(5).port();
        x.undo(0);
        for (int lot : new int[] {-1, 1, Integer.MIN_VALUE, Integer.MAX_VALUE}) {
            c.due("over(" + lot + ")", x.over(lot), 0);
        }
        c.due("over(0)", x.over(0), -5);
        x.bring(0, 0, 0, 5);
        Checks.adoptText(x, "duty is 9;");
        c.due("over of one not CUSTOMED", x.over(1), 0);
    }

    private static void promise18OnThatDayAsKnownToday(Checks c) {
        c.says("by the STATUTE in force on that day as known TODAY, less its DUTY");
        StaplePort x = new Script().merchants(1).adopt("duty is 2;").bring(new int[] {0, 0, 10}).day(5).customUpTo(0)
                .port();
        c.due("over at once", x.over(0), 0);
        Checks.adoptText(x, "duty is 3;");
        c.due("one ADOPTED later on that day", x.over(0), 10);
        x.day(6);
        Checks.adoptText(x, "duty is 9;");
        c.due("one ADOPTED a day later", x.over(0), 10);
        x.undo(1);
        c.due("the one of that day UNDONE", x.over(0), 0);
        x.undo(0);
        c.due("none of that day left", x.over(0), -20);
        c.due("its DUTY stays", x.lot(0, 7), 20);
        c.due("its BOND stays", x.lot(0, 8), 1);
    }

    private static void promise18ZeroOfAFreeOne(Checks c) {
        c.says("(0 of a FREE one)");
        StaplePort x = new Script().merchants(1).adopt("forbid; duty is 5;").add(y -> y.licence(0, 0, 9))
                .bring(new int[] {0, 0, 9}).port();
        c.due("over ahead of custom", x.over(0), 0);
        x.custom(0);
        c.due("over", x.over(0), 0);
        Checks.adoptText(x, "duty is 999;");
        c.due("over by another STATUTE", x.over(0), 0);
        x.undo(0);
        x.undo(1);
        c.due("over by none", x.over(0), 0);
    }

    private static void promise18BothWays(Checks c) {
        c.says("What the DUTY of a CUSTOMED LOT would be .. less its DUTY");
        StaplePort x = greatBond().port();
        x.undo(0);
        c.due("the least", x.over(0), -499500);
        Script later = new Script().merchants(1).bring(new int[] {0, 0, 500}).customUpTo(0).adopt("duty is 999;");
        StaplePort y = later.port();
        c.due("the most", y.over(0), 499500);
    }

    private BondEdgeTest() {
    }
}
