import java.util.Arrays;

/** Promises 24 and 25 at their edges, a test for each sentence: sell, part. */
public final class PartEdgeTest {
    public static void main(String[] args) {
        Checks c = new Checks("PartEdgeTest");
        promise24Coins(c);
        promise24NoneSuch(c);
        promise24HasntSailed(c);
        promise24Once(c);
        promise24WithoutWorth(c);
        promise25NoneSuch(c);
        promise25NotSold(c);
        promise25SacksTimes4LessSort(c);
        promise25Added(c);
        promise25InShipsNotLost(c);
        promise25TheGreatestRemainders(c);
        promise25OfSeveralTheLesserNumber(c);
        promise25TwentyMerchants(c);
        promise25TheGreatestNumbers(c);
        c.end();
    }

    /** One FLEET at sea whose one SHIP has for each row {merchant, sort, sacks} a lot of its own. */
    private static Script atSea(int merchants, int[]... rows) {
        Script s = new Script().merchants(merchants).bring(rows).customUpTo(rows.length - 1);
        s.add(x -> x.fleet()).add(x -> x.ship(0, 500));
        for (int lot = 0; lot < rows.length; lot++) {
            s.load(0, lot, rows[lot][2]);
        }
        return s.add(x -> x.sail(0));
    }

    private static void parts(Checks c, StaplePort x, int fleet, int... due) {
        for (int m = 0; m < due.length; m++) {
            c.due("part(" + fleet + ", " + m + ")", x.part(fleet, m), due[m]);
        }
    }

    private static void promise24Coins(Checks c) {
        c.says("A FLEET is SOLD for so many coins (0 to 1,000,000): all that is parted.");
        Script one = atSea(1, new int[] {0, 0, 5});
        c.range("sell for", 0, 1000000, coins -> one.port().sell(0, coins), coins -> coins, -1);
        c.range("part of", 0, 1000000, coins -> {
            StaplePort x = one.port();
            x.sell(0, coins);
            return x.part(0, 0);
        }, coins -> coins, 0);
    }

    private static void promise24NoneSuch(Checks c) {
        c.says("NONE, doing nothing: not as told");
        c.due("sell of none", new StaplePort().sell(0, 1), -1);
        Script three = new Script().times(3, i -> x -> x.fleet()).times(3, i -> x -> x.sail(i));
        c.range("sell of one of three", 0, 2, fleet -> three.port().sell(fleet, 1), fleet -> 0, -1);
        Script twenty = new Script().times(20, i -> x -> x.fleet()).times(20, i -> x -> x.sail(i));
        c.range("sell of one of 20", 0, 19, fleet -> twenty.port().sell(fleet, 1), fleet -> 0, -1);
    }

    private static void promise24HasntSailed(Checks c) {
        c.says("not as told, it hasn't sailed");
        Script s = new Script().merchants(1).bring(new int[] {0, 0, 5}).customUpTo(0).times(2, i -> x -> x.fleet());
        StaplePort x = s.add(y -> y.ship(0, 9)).load(0, 0, 5).add(y -> y.sail(1)).port();
        c.due("sell in port", x.sell(0, 8), -1);
        c.due("part", x.part(0, 0), 0);
        c.due("sail", x.sail(0), 5);
        c.due("sell at sea", x.sell(0, 8), 8);
        c.due("part", x.part(0, 0), 8);
    }

    private static void promise24Once(Checks c) {
        c.says("SOLD, once .. it hasn't sailed, it is.");
        StaplePort x = atSea(1, new int[] {0, 0, 5}).port();
        c.due("sell", x.sell(0, 8), 8);
        c.due("sell again", x.sell(0, 9), -1);
        c.due("part", x.part(0, 0), 8);
        StaplePort y = atSea(1, new int[] {0, 0, 5}).port();
        c.due("sell for 0", y.sell(0, 0), 0);
        c.due("sell again", y.sell(0, 9), -1);
        c.due("part", y.part(0, 0), 0);
        StaplePort z = atSea(1, new int[] {0, 0, 5}).port();
        c.due("a refused one is no sale", z.sell(0, 1000001), -1);
        c.due("nor this", z.sell(0, -1), -1);
        c.due("sell", z.sell(0, 1000000), 1000000);
    }

    private static void promise24WithoutWorth(Checks c) {
        c.says("Without WORTH nothing is parted.");
        StaplePort x = new Script().merchants(2).times(2, i -> y -> y.fleet()).add(y -> y.ship(1, 9))
                .times(2, i -> y -> y.sail(i)).port();
        c.due("without SHIPS", x.sell(0, 1000000), 0);
        c.due("without sacks", x.sell(1, 1), 0);
        parts(c, x, 0, 0, 0, -1);
        parts(c, x, 1, 0, 0, -1);
        StaplePort y = atSea(2, new int[] {0, 0, 5}, new int[] {1, 3, 5}).add(z -> z.sink(0)).port();
        c.due("all LOST", y.sell(0, 1000), 0);
        parts(c, y, 0, 0, 0, -1);
        c.due("it is SOLD", y.sell(0, 1000), -1);
        StaplePort least = atSea(2, new int[] {1, 3, 1}).port();
        c.due("the least WORTH", least.sell(0, 1000), 1000);
        parts(c, least, 0, 0, 1000, -1);
    }

    private static void promise25NoneSuch(Checks c) {
        c.says("What a MERCHANT got of a FLEET. NONE: none such");
        c.due("part of none", new StaplePort().part(0, 0), -1);
        c.due("part of no FLEET", new Script().merchants(1).port().part(0, 0), -1);
        c.due("part of no MERCHANT", new Script().add(x -> x.fleet()).port().part(0, 0), -1);
        Script sold = atSea(3, new int[][] {{0, 0, 5}, {1, 0, 5}, {2, 0, 5}}).times(2, i -> x -> x.fleet())
                .add(x -> x.sell(0, 300));
        c.range("part of one of three MERCHANTS", 0, 2, m -> sold.port().part(0, m), m -> 100, -1);
        c.range("part of one of three FLEETS", 0, 2, fleet -> sold.port().part(fleet, 1),
                fleet -> fleet == 0 ? 100 : 0, -1);
        c.range("part, not SOLD, of a MERCHANT", 0, 2, m -> sold.port().part(1, m), m -> 0, -1);
        StaplePort x = sold.port();
        x.merchant(0);
        c.due("part of one who came later", x.part(0, 3), 0);
        c.due("part of the next", x.part(0, 4), -1);
    }

    private static void promise25NotSold(Checks c) {
        c.says("0: it isn't SOLD.");
        StaplePort x = atSea(2, new int[] {0, 0, 5}).add(y -> y.fleet()).port();
        parts(c, x, 0, 0, 0, -1);
        parts(c, x, 1, 0, 0, -1);
        x.sell(0, 7);
        parts(c, x, 0, 7, 0, -1);
        parts(c, x, 1, 0, 0, -1);
        parts(c, x, 2, -1, -1, -1);
    }

    private static void promise25SacksTimes4LessSort(Checks c) {
        c.says("sacks times 4 less SORT");
        StaplePort x = atSea(4, new int[][] {{0, 0, 1}, {1, 1, 1}, {2, 2, 1}, {3, 3, 1}}).port();
        c.due("sell", x.sell(0, 1000), 1000);
        parts(c, x, 0, 400, 300, 200, 100);
        StaplePort y = atSea(4, new int[][] {{0, 0, 3}, {1, 1, 4}, {2, 2, 6}, {3, 3, 12}}).port();
        c.due("sell", y.sell(0, 1000), 1000);
        parts(c, y, 0, 250, 250, 250, 250);
    }

    private static void promise25Added(Checks c) {
        c.says("by the WORTH of what is theirs .. added");
        Script s = new Script().merchants(2).bring(new int[][] {{0, 0, 10}, {1, 3, 50}, {0, 3, 10}, {0, 0, 90}});
        s.customUpTo(3).times(2, i -> x -> x.fleet()).add(x -> x.ship(0, 99)).add(x -> x.ship(0, 99));
        s.add(x -> x.ship(1, 99)).load(0, 0, 3).load(1, 0, 2).load(1, 1, 50).load(0, 2, 10).load(0, 0, 1);
        // What lies in another FLEET, or ashore, isn't parted: 6 sacks at 4 and 10 at 1 by 50 at 1.
        StaplePort x = s.load(2, 3, 90).add(y -> y.sail(0)).add(y -> y.sail(1)).port();
        c.due("sell", x.sell(0, 84), 84);
        parts(c, x, 0, 34, 50);
        c.due("sell of the other", x.sell(1, 9), 9);
        parts(c, x, 1, 9, 0);
        parts(c, x, 0, 34, 50);
    }

    private static void promise25InShipsNotLost(Checks c) {
        c.says("in SHIPS not LOST");
        Script s = new Script().merchants(2).bring(new int[] {0, 0, 10}, new int[] {1, 0, 10}).customUpTo(1);
        s.add(x -> x.fleet()).times(3, i -> x -> x.ship(0, 9)).load(0, 0, 6).load(1, 0, 4).load(1, 1, 1).load(2, 1, 9);
        s.add(x -> x.sail(0));
        int[][] due = {{50, 50}, {29, 71}, {40, 60}, {91, 9}};
        StaplePort whole = s.port();
        whole.sell(0, 100);
        parts(c, whole, 0, due[0]);
        for (int lost = 0; lost < 3; lost++) {
            StaplePort x = s.port();
            x.sink(lost);
            c.due("sell, SHIP " + lost + " LOST", x.sell(0, 100), 100);
            parts(c, x, 0, due[lost + 1]);
        }
        StaplePort y = s.port();
        y.sink(1);
        y.sink(2);
        c.due("sell, one of three left", y.sell(0, 100), 100);
        parts(c, y, 0, 100, 0);
    }

    /** The sacks are each of a merchant, all of SORT 3; the lots come from the last to the first. */
    private static void parted(Checks c, int coins, int[] sacks, int... due) {
        Script s = new Script().merchants(sacks.length).add(x -> x.fleet()).add(x -> x.ship(0, 500));
        int lots = 0;
        for (int m = sacks.length - 1; m >= 0; m--) {
            int of = m;
            int lot = lots;
            if (sacks[m] > 0) {
                s.add(x -> x.bring(of, 0, 3, sacks[of])).add(x -> x.custom(lot)).load(0, lot, sacks[m]);
                lots++;
            }
        }
        StaplePort x = s.add(y -> y.sail(0)).port();
        c.due("sell for " + coins, x.sell(0, coins), coins);
        parts(c, x, 0, due);
    }

    private static void promise25TheGreatestRemainders(Checks c) {
        c.says("what is left goes one by one to those with the greatest remainders");
        // By 10: 11 coins leave 0.7 0.2 0.1, 13 leave 0.1 0.6 0.3, 16 leave 0.2 0.2 0.6.
        parted(c, 11, new int[] {7, 2, 1}, 8, 2, 1);
        parted(c, 11, new int[] {1, 2, 7}, 1, 2, 8);
        parted(c, 11, new int[] {2, 7, 1}, 2, 8, 1);
        parted(c, 13, new int[] {7, 2, 1}, 9, 3, 1);
        parted(c, 16, new int[] {7, 2, 1}, 11, 3, 2);
        parted(c, 10, new int[] {7, 2, 1}, 7, 2, 1);
        parted(c, 1, new int[] {1, 2, 7}, 0, 0, 1);
        parted(c, 2, new int[] {1, 2, 7}, 0, 1, 1);
        parted(c, 0, new int[] {1, 2, 7}, 0, 0, 0);
        // One by one: no one gets two of those that are left, however great its share is.
        parted(c, 2, new int[] {4, 5, 91}, 0, 0, 2);
        parted(c, 9, new int[] {4, 5, 91}, 0, 1, 8);
        parted(c, 7, new int[] {1, 0, 1}, 4, 0, 3);
    }

    private static void promise25OfSeveralTheLesserNumber(Checks c) {
        c.says("of several the lesser number");
        parted(c, 100, new int[] {1, 1, 1}, 34, 33, 33);
        parted(c, 101, new int[] {1, 1, 1}, 34, 34, 33);
        parted(c, 102, new int[] {1, 1, 1}, 34, 34, 34);
        parted(c, 1, new int[] {5, 5}, 1, 0);
        parted(c, 1, new int[] {0, 5, 5}, 0, 1, 0);
        parted(c, 2, new int[] {0, 5, 5, 0, 5}, 0, 1, 1, 0, 0);
        // By 10: 17 coins leave 0.1 0.1 0.8, 16 leave 0.8 0.8 0.4, 15 leave 0.5 0.5 0.
        parted(c, 17, new int[] {3, 3, 4}, 5, 5, 7);
        parted(c, 16, new int[] {3, 3, 4}, 5, 5, 6);
        parted(c, 15, new int[] {3, 3, 4}, 5, 4, 6);
        parted(c, 15, new int[] {4, 3, 3}, 6, 5, 4);
        parted(c, 12, new int[] {3, 4, 3}, 4, 5, 3);
    }

    private static void promise25TwentyMerchants(Checks c) {
        c.says("MERCHANTS, up to 20 .. what is left goes one by one");
        int[] each = new int[20];
        Arrays.fill(each, 7);
        for (int coins : new int[] {0, 1, 19, 20, 21, 39, 40}) {
            int[] due = new int[20];
            for (int m = 0; m < 20; m++) {
                due[m] = coins / 20 + (m < coins % 20 ? 1 : 0);
            }
            parted(c, coins, each, due);
        }
        int[] last = new int[20];
        last[19] = 1;
        int[] all = new int[20];
        all[19] = 999;
        parted(c, 999, last, all);
    }

    private static void promise25TheGreatestNumbers(Checks c) {
        c.says("Each gets coins times WORTH by all WORTH, cut");
        Script s = new Script().merchants(2).times(40, i -> x -> x.bring(i == 39 ? 1 : 0, 0, i == 39 ? 3 : 0, 500));
        s.customUpTo(39).add(x -> x.fleet()).times(40, i -> x -> x.ship(0, 500));
        for (int i = 0; i < 39; i++) {
            s.load(i, i, 500);
        }
        StaplePort x = s.load(39, 39, 1).add(y -> y.sail(0)).port();
        // 78,000 and 1: the one gets 1,000,000/78,001, which is 12.8, and the other 999,987.1.
        c.due("sell for the most", x.sell(0, 1000000), 1000000);
        parts(c, x, 0, 999987, 13);
        StaplePort y = s.port();
        c.due("sell for one less", y.sell(0, 999999), 999999);
        parts(c, y, 0, 999986, 13);
        StaplePort z = s.port();
        c.due("sell for 39000", z.sell(0, 39000), 39000);
        parts(c, z, 0, 39000, 0);
        StaplePort half = s.port();
        c.due("sell for 39001", half.sell(0, 39001), 39001);
        parts(c, half, 0, 39000, 1);
    }

    private PartEdgeTest() {
    }
}
