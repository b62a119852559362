import java.util.ArrayList;
import java.util.List;

/** Each call that the document refuses "doing nothing": whatever can be asked then answers as without it. */
public final class RefusalTest {
    private interface Call {
        long on(StaplePort port);
    }

    public static void main(String[] args) {
        Checks c = new Checks("RefusalTest");
        days(c);
        statutes(c);
        lots(c);
        fleets(c);
        asking(c);
        c.end();
    }

    private static void days(Checks c) {
        refused(c, "day(20)", x -> x.day(20) ? 1 : 0, 0);
        refused(c, "day(3001)", x -> x.day(3001) ? 1 : 0, 0);
        refused(c, "merchant(3)", x -> x.merchant(3), -1);
        refused(c, "merchant(-1)", x -> x.merchant(-1), -1);
        refused(c, "grow(8, 0, 5)", x -> x.grow(8, 0, 5), -1);
        refused(c, "grow(0, 4, 5)", x -> x.grow(0, 4, 5), -1);
        refused(c, "grow(0, 0, 1001)", x -> x.grow(0, 0, 1001), -1);
        refused(c, "grow(0, 0, -1)", x -> x.grow(0, 0, -1), -1);
    }

    private static void statutes(Checks c) {
        refused(c, "adopt(-1)", x -> x.adopt(-1), -2);
        refused(c, "adopt(21)", x -> x.adopt(21), -2);
        refused(c, "undo(3)", x -> x.undo(3) ? 1 : 0, 0);
        refused(c, "undo(1)", x -> x.undo(1) ? 1 : 0, 0);
        refused(c, "undo(-1)", x -> x.undo(-1) ? 1 : 0, 0);
        refused(c, "rate(0, 2, 1)", x -> x.rate(0, 2, 1) ? 1 : 0, 0);
        refused(c, "rate(4, 2, 1)", x -> x.rate(4, 2, 1) ? 1 : 0, 0);
        refused(c, "rate(1, 0, 1)", x -> x.rate(1, 0, 1) ? 1 : 0, 0);
        refused(c, "rate(1, 9, 1001)", x -> x.rate(1, 9, 1001) ? 1 : 0, 0);
    }

    private static void lots(Checks c) {
        refused(c, "licence(3, 0, 5)", x -> x.licence(3, 0, 5), -1);
        refused(c, "licence(0, 4, 5)", x -> x.licence(0, 4, 5), -1);
        refused(c, "licence(0, 0, 0)", x -> x.licence(0, 0, 0), -1);
        refused(c, "licence(0, 0, 501)", x -> x.licence(0, 0, 501), -1);
        refused(c, "bring(3, 0, 0, 5)", x -> x.bring(3, 0, 0, 5), -2);
        refused(c, "bring(0, 8, 0, 5)", x -> x.bring(0, 8, 0, 5), -2);
        refused(c, "bring(0, 0, 4, 5)", x -> x.bring(0, 0, 4, 5), -2);
        refused(c, "bring(0, 0, 0, 0)", x -> x.bring(0, 0, 0, 0), -2);
        refused(c, "bring(0, 0, 3, 501)", x -> x.bring(0, 0, 3, 501), -2);
        refused(c, "bring(0, 0, 3, 36)", x -> x.bring(0, 0, 3, 36), -3);
        refused(c, "bring(2, 0, 3, 5)", x -> x.bring(2, 0, 3, 5), -3);
        refused(c, "custom(0)", x -> x.custom(0), -1);
        refused(c, "custom(6)", x -> x.custom(6), -1);
        refused(c, "custom(-1)", x -> x.custom(-1), -1);
        refused(c, "pay(0, 4, 5)", x -> x.pay(0, 4, 5), -1);
        refused(c, "pay(0, -1, 5)", x -> x.pay(0, -1, 5), -1);
        refused(c, "pay(0, 0, 0)", x -> x.pay(0, 0, 0), -1);
        refused(c, "pay(0, 0, 100001)", x -> x.pay(0, 0, 100001), -1);
        refused(c, "pay on a paid BOND", x -> x.pay(1, 0, 5), -1);
        refused(c, "pay on one that ended", x -> x.pay(2, 0, 5), -1);
        refused(c, "pay on a FREE lot", x -> x.pay(3, 0, 5), -1);
        refused(c, "pay on one not CUSTOMED", x -> x.pay(5, 0, 5), -1);
    }

    private static void fleets(Checks c) {
        refused(c, "ship(3, 5)", x -> x.ship(3, 5), -1);
        refused(c, "ship(0, 5)", x -> x.ship(0, 5), -1);
        refused(c, "ship(2, 0)", x -> x.ship(2, 0), -1);
        refused(c, "ship(2, 501)", x -> x.ship(2, 501), -1);
        refused(c, "load(5, 11, 29, 1)", x -> x.load(5, 11, 29, 1), -2);
        refused(c, "load(4, 11, 29, 0)", x -> x.load(4, 11, 29, 0), -2);
        refused(c, "load(4, 11, 11, 1)", x -> x.load(4, 11, 11, 1), -3);
        refused(c, "load of one not CUSTOMED", x -> x.load(4, 5196, 5294, 1), -3);
        refused(c, "load(0, 11, 29, 1)", x -> x.load(0, 11, 29, 1), -4);
        refused(c, "load(4, 11, 29, 56)", x -> x.load(4, 11, 29, 56), -5);
        refused(c, "load(4, 11, 29, 26)", x -> x.load(4, 11, 29, 26), -6);
        refused(c, "sail(0)", x -> x.sail(0), -1);
        refused(c, "sail(3)", x -> x.sail(3), -1);
        refused(c, "sink of a LOST one", x -> x.sink(0), -1);
        refused(c, "sink of a SOLD one", x -> x.sink(1), -1);
        refused(c, "sink in port", x -> x.sink(4), -1);
        refused(c, "sink(5)", x -> x.sink(5), -1);
        refused(c, "sell of a SOLD one", x -> x.sell(0, 77), -1);
        refused(c, "sell in port", x -> x.sell(2, 77), -1);
        refused(c, "sell(3, 77)", x -> x.sell(3, 77), -1);
        refused(c, "sell(1, -1)", x -> x.sell(1, -1), -1);
        refused(c, "sell(1, 1000001)", x -> x.sell(1, 1000001), -1);
    }

    private static void asking(Checks c) {
        refused(c, "fault()", x -> x.fault(), 8);
        refused(c, "force(20)", x -> x.force(20), 2);
        refused(c, "left(0)", x -> x.left(0), 15);
        refused(c, "half(0, 0)", x -> x.half(0, 0), 11);
        refused(c, "half(0, 2)", x -> x.half(0, 2), -1);
        refused(c, "lot(0, 3)", x -> x.lot(0, 3), 100);
        refused(c, "over(0)", x -> x.over(0), 0);
        refused(c, "part(0, 0)", x -> x.part(0, 0), 31);
        refused(c, "shipOf(0, 1)", x -> x.shipOf(0, 1), 40);
        refused(c, "sum(0, 0, 6)", x -> x.sum(0, 0, 6), 10);
        refused(c, "count(8)", x -> x.count(8), 2);
    }

    private static void refused(Checks c, String call, Call refusal, long due) {
        StaplePort plain = port();
        StaplePort asked = port();
        c.due(call, refusal.on(asked), due);
        List<Long> want = answers(plain);
        List<Long> got = answers(asked);
        for (int i = 0; i < want.size(); i++) {
            c.due("answer " + i + " behind " + call, got.get(i), want.get(i));
        }
    }

    /**
     * Lots: 0 with an open BOND, 1 paid, 2 ended with a SHIP, 3 FREE, 4 open, 5 not CUSTOMED.
     * FLEETS: 0 SOLD (its SHIP 0 LOST), 1 sailed, 2 in port. STATUTE 1 is UNDONE.
     */
    private static StaplePort port() {
        StaplePort x = Checks.portWithMerchants(3);
        x.grow(0, 0, 250);
        Checks.adoptText(x, "duty sort 3 is 9; duty is 4; forbid sort 3; term 15; lost ends;");
        x.licence(0, 3, 20);
        x.licence(0, 3, 20);
        int[][] brought = {{0, 0, 100}, {1, 1, 50}, {2, 2, 40}, {0, 3, 5}, {1, 0, 30}, {1, 0, 10}};
        for (int lot = 0; lot < 6; lot++) {
            x.bring(brought[lot][0], 0, brought[lot][1], brought[lot][2]);
            if (lot < 5) {
                x.custom(lot);
            }
        }
        x.rate(1, 3, 2);
        x.pay(0, 1, 31);
        x.pay(1, 0, 250);
        for (int ship = 0; ship < 5; ship++) {
            x.ship(ship % 2 == 0 ? x.fleet() : ship / 2, ship == 4 ? 25 : 40);
        }
        Checks.loadLot(x, 0, 2, 40);
        Checks.loadLot(x, 1, 0, 10);
        Checks.loadLot(x, 1, 1, 30);
        Checks.loadLot(x, 2, 0, 35);
        Checks.loadLot(x, 3, 3, 5);
        x.sail(0);
        x.sail(1);
        x.sink(0);
        x.sell(0, 100);
        x.day(20);
        x.adopt(0);
        x.undo(1);
        Checks.adoptText(x, "duty is 3; forbid sort 3; lost ends;");
        Checks.adoptText(x, "lost is ");
        Checks.adoptText(x, "duty is ");
        Checks.feedText(x, "term 9; lost ends;");
        return x;
    }

    /** All that can be asked, and what calls answer that show what can't be asked. */
    private static List<Long> answers(StaplePort x) {
        List<Long> all = new ArrayList<>();
        for (int what = 0; what <= 10; what++) {
            all.add((long) x.count(what));
        }
        all.add((long) x.fault());
        for (int day = 0; day <= 20; day += 10) {
            all.add((long) x.force(day));
        }
        for (int lot = 0; lot < 7; lot++) {
            for (int what = 0; what < 15; what++) {
                all.add((long) x.lot(lot, what));
            }
            all.add((long) x.half(lot, 0));
            all.add((long) x.over(lot));
            all.add((long) x.left(lot));
        }
        for (int ship = 0; ship < 6; ship++) {
            for (int what = 0; what < 5; what++) {
                all.add((long) x.shipOf(ship, what));
            }
        }
        for (int fleet = 0; fleet < 4; fleet++) {
            for (int merchant = 0; merchant < 3; merchant++) {
                all.add((long) x.part(fleet, merchant));
            }
        }
        for (int what = 0; what < 7; what++) {
            all.add((long) x.sum(0, 0, what));
            all.add((long) x.sum(0, 3, what));
        }
        goOn(x, all);
        return all;
    }

    private static void goOn(StaplePort x, List<Long> all) {
        for (int kind = 0; kind < 4; kind++) {
            all.add((long) x.pay(0, kind, 6));
            all.add((long) x.lot(0, 10));
        }
        all.add((long) x.load(4, 11, 29, 25));
        all.add((long) x.sail(2));
        all.add((long) x.sink(3));
        all.add((long) x.sell(1, 1000));
        all.add((long) x.part(1, 0));
        all.add((long) x.bring(0, 0, 3, 35));
        all.add((long) x.left(1));
        all.add((long) x.adopt(18));
        all.add((long) x.custom(5));
        all.add((long) x.merchant(1));
    }

    private RefusalTest() {
    }
}
