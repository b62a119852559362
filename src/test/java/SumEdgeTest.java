/** Promises 27 and 28 at their edges, a test for each sentence: sum, count; and an object's last call. */
public final class SumEdgeTest {
    public static void main(String[] args) {
        Checks c = new Checks("SumEdgeTest");
        promise27NotAsTold(c);
        promise27EachShireAndSort(c);
        promise27BelowZeroIfMoreWereBrought(c);
        promise27BroughtAndNotCustomed(c);
        promise27LoadedAndLost(c);
        promise27TheMost(c);
        promise28NoneForOthers(c);
        promise28TheMostOfEach(c);
        promise28OpenAndLate(c);
        promise28WithoutWhatWasGivenBack(c);
        promise28TheMostThatIsPaid(c);
        theLastCall(c);
        c.end();
    }

    private static void sums(Checks c, StaplePort x, int shire, int sort, int... due) {
        for (int what = 0; what < due.length; what++) {
            c.due("sum(" + shire + ", " + sort + ", " + what + ")", x.sum(shire, sort, what), due[what]);
        }
    }

    private static void promise27NotAsTold(Checks c) {
        c.says("-100000: not as told.");
        StaplePort x = new StaplePort();
        for (int what = 0; what <= 6; what++) {
            int of = what;
            c.range("sum(shire, 0, " + what + ")", 0, 7, shire -> x.sum(shire, 0, of), shire -> 0, -100000);
            c.range("sum(0, sort, " + what + ")", 0, 3, sort -> x.sum(0, sort, of), sort -> 0, -100000);
        }
        c.range("sum(0, 0, what)", 0, 6, what -> x.sum(0, 0, what), what -> 0, -100000);
        c.range("sum(7, 3, what)", 0, 6, what -> x.sum(7, 3, what), what -> 0, -100000);
    }

    private static void promise27EachShireAndSort(Checks c) {
        c.says("Of a SHIRE and SORT: sacks grown (0), brought (1)");
        Script s = new Script().merchants(1).times(32, i -> x -> x.grow(i / 4, i % 4, 100 + i));
        s.times(32, i -> x -> x.bring(0, i / 4, i % 4, 1 + i));
        StaplePort x = s.port();
        for (int i = 0; i < 32; i++) {
            sums(c, x, i / 4, i % 4, 100 + i, 1 + i, 0, 0, 0, 99, 1 + i);
        }
    }

    private static void promise27BelowZeroIfMoreWereBrought(Checks c) {
        c.says("grown and not brought (5: below 0 if more were brought)");
        StaplePort x = new Script().merchants(1).add(y -> y.grow(2, 1, 10)).port();
        c.due("nothing brought", x.sum(2, 1, 5), 10);
        x.bring(0, 2, 1, 9);
        c.due("one less", x.sum(2, 1, 5), 1);
        x.bring(0, 2, 1, 1);
        c.due("as many", x.sum(2, 1, 5), 0);
        x.bring(0, 2, 1, 1);
        c.due("one more", x.sum(2, 1, 5), -1);
        x.grow(2, 1, 1);
        c.due("one more grown", x.sum(2, 1, 5), 0);
    }

    private static void promise27BroughtAndNotCustomed(Checks c) {
        c.says("CUSTOMED (2) .. brought and not CUSTOMED (6)");
        Script s = new Script().merchants(1).adopt("forbid sort 1;").add(x -> x.licence(0, 1, 500));
        StaplePort x = s.bring(new int[][] {{0, 1, 500}, {0, 0, 1}, {0, 0, 499}}).port();
        sums(c, x, 0, 0, 0, 500, 0, 0, 0, -500, 500);
        sums(c, x, 0, 1, 0, 500, 0, 0, 0, -500, 500);
        x.custom(1);
        sums(c, x, 0, 0, 0, 500, 1, 0, 0, -500, 499);
        x.custom(2);
        x.custom(2);
        sums(c, x, 0, 0, 0, 500, 500, 0, 0, -500, 0);
        sums(c, x, 0, 1, 0, 500, 0, 0, 0, -500, 500);
        x.custom(0);
        sums(c, x, 0, 1, 0, 500, 500, 0, 0, -500, 0);
    }

    private static void promise27LoadedAndLost(Checks c) {
        c.says("loaded (3), LOST (4)");
        Script s = new Script().merchants(1).bring(new int[] {0, 0, 9}, new int[] {0, 0, 9}, new int[] {0, 1, 9});
        s.customUpTo(2).times(2, i -> x -> x.fleet()).add(x -> x.ship(0, 9)).add(x -> x.ship(1, 9));
        StaplePort x = s.load(0, 0, 1).load(1, 1, 9).load(0, 2, 2).load(0, 0, 3).port();
        sums(c, x, 0, 0, 0, 18, 18, 13, 0, -18, 0);
        sums(c, x, 0, 1, 0, 9, 9, 2, 0, -9, 0);
        x.sail(0);
        sums(c, x, 0, 0, 0, 18, 18, 13, 0, -18, 0);
        x.sink(0);
        x.sink(1);
        sums(c, x, 0, 0, 0, 18, 18, 13, 4, -18, 0);
        sums(c, x, 0, 1, 0, 9, 9, 2, 2, -9, 0);
        x.sail(1);
        x.sink(1);
        sums(c, x, 0, 0, 0, 18, 18, 13, 13, -18, 0);
    }

    private static void promise27TheMost(Checks c) {
        c.says("Of a SHIRE and SORT: sacks grown (0), brought (1), CUSTOMED (2)");
        Script s = new Script().merchants(1).times(150, i -> x -> x.bring(0, 7, 3, 500)).customUpTo(149);
        StaplePort x = s.times(180, i -> y -> y.grow(7, 2, 1000)).port();
        sums(c, x, 7, 3, 0, 75000, 75000, 0, 0, -75000, 0);
        sums(c, x, 7, 2, 180000, 0, 0, 0, 0, 180000, 0);
    }

    private static void promise28NoneForOthers(Checks c) {
        c.says("NONE for others.");
        StaplePort x = new StaplePort();
        c.range("count(what)", 0, 10, what -> x.count(what), what -> 0, -1);
    }

    private static void promise28TheMostOfEach(Checks c) {
        c.says("0 TODAY, 1 MERCHANTS, 2 STATUTES, 3 LICENCES, 4 LOTS, 5 FLEETS, 6 SHIPS, 7 bytes on the tape");
        Script s = new Script().day(3000).merchants(20).times(20, i -> x -> x.adopt(0));
        s.times(40, i -> x -> x.licence(0, 0, 1)).times(150, i -> x -> x.bring(0, 0, 0, 1));
        s.times(20, i -> x -> x.fleet()).times(40, i -> x -> x.ship(0, 1)).feed(" ".repeat(600));
        s.merchants(1).add(x -> x.adopt(0)).add(x -> x.licence(0, 0, 1)).add(x -> x.bring(0, 0, 0, 1));
        s.add(x -> x.fleet()).add(x -> x.ship(0, 1)).feed(" ".repeat(20)).day(3001);
        StaplePort x = s.port();
        int[] due = {3000, 20, 20, 40, 150, 20, 40, 600, 0, 0, 0};
        for (int what = 0; what < due.length; what++) {
            c.due("count(" + what + ")", x.count(what), due[what]);
        }
    }

    private static void promise28OpenAndLate(Checks c) {
        c.says("8 BONDS that are open, 9 those LATE");
        Script s = new Script().merchants(1).adopt("duty is 1; term 2;").times(150, i -> x -> x.bring(0, 0, 0, 1));
        StaplePort x = s.customUpTo(148).day(1).add(y -> y.custom(149)).port();
        bonds(c, x, 150, 0);
        x.day(2);
        bonds(c, x, 150, 0);
        x.day(3);
        bonds(c, x, 150, 149);
        x.pay(149, 0, 1);
        bonds(c, x, 149, 149);
        x.pay(0, 0, 1);
        bonds(c, x, 148, 148);
    }

    private static void bonds(Checks c, StaplePort x, int open, int late) {
        c.due("count(8)", x.count(8), open);
        c.due("count(9)", x.count(9), late);
    }

    private static void promise28WithoutWhatWasGivenBack(Checks c) {
        c.says("10 what was paid is worth in all (without what was given back)");
        Script s = new Script().merchants(1).adopt("duty is 1; lost ends;").times(3, i -> x -> x.bring(0, 0, 0, 9));
        StaplePort x = s.customUpTo(2).add(y -> y.fleet()).add(y -> y.ship(0, 9)).load(0, 1, 1).port();
        x.pay(0, 0, 8);
        c.due("8 of 9", x.count(10), 8);
        x.pay(0, 0, 2);
        c.due("10, of which 1 is given back", x.count(10), 9);
        x.pay(0, 0, 5);
        c.due("a refused one", x.count(10), 9);
        x.pay(1, 0, 4);
        c.due("on another one", x.count(10), 13);
        x.pay(2, 1, 4);
        c.due("without a RATE", x.count(10), 13);
        x.rate(1, 3, 2);
        x.pay(2, 1, 3);
        c.due("by a RATE", x.count(10), 17);
        x.sail(0);
        x.sink(0);
        c.due("when one ended with a SHIP", x.count(10), 17);
    }

    private static void promise28TheMostThatIsPaid(Checks c) {
        c.says("10 what was paid is worth in all");
        Script s = new Script().merchants(1).adopt("duty is 999;").add(x -> Checks.bit(x.rate(1, 1000, 1)));
        s.times(150, i -> x -> x.bring(0, 0, 0, 500)).customUpTo(149).times(150, i -> x -> x.pay(i, 1, 100000));
        c.due("150 times 499,500", s.port().count(10), 74925000);
    }

    private static void theLastCall(Checks c) {
        c.says("An object is used for at most 512 calls after it has been made");
        Script s = new Script().merchants(20).times(150, i -> x -> x.bring(i % 20, 7, 3, 500)).customUpTo(149);
        s.times(20, i -> x -> x.fleet()).times(40, i -> x -> x.ship(i / 2, 500));
        for (int i = 0; i < 130; i++) {
            s.load(i % 40, i, 1);
        }
        StaplePort x = s.port();
        c.due("sail, call " + (s.length() + 1), x.sail(19), 6);
        c.due("sell, the 512th call", x.sell(19, 1000), 1000);
    }

    private SumEdgeTest() {
    }
}
