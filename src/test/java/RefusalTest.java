/** Each call that the document refuses: whatever is asked and done behind it answers as without it. */
public final class RefusalTest {
    private static final int LEAST = Integer.MIN_VALUE;
    private static final int MOST = Integer.MAX_VALUE;

    public static void main(String[] args) {
        Checks c = new Checks("RefusalTest");
        aNewPort(c);
        Twins busy = new Twins(c, busyPort());
        days(busy);
        statutes(busy);
        licencesAndLots(busy);
        coins(busy);
        shipsAndLoads(busy);
        sea(busy);
        asking(busy);
        theLastDay(c);
        twentyMerchants(c);
        fullTape(c);
        twentyStatutes(c);
        fortyLicences(c);
        manyLots(c);
        twentyFleets(c);
        fortyShips(c);
        manyLoadings(c);
        c.end();
    }

    /**
     * Lots: 0 with an open BOND, 1 paid, 2 ended with a SHIP, 3 FREE, 4 open, 5 not CUSTOMED, 6 of
     * DUTY 0. FLEETS: 0 SOLD (its SHIP 0 LOST), 1 sailed, 2 in port. STATUTE 1 is UNDONE.
     */
    private static Script busyPort() {
        Script s = new Script().merchants(3).add(x -> x.grow(0, 0, 250));
        s.adopt("duty sort 3 is 9; duty man 2 sort 1 is 0; duty is 4; forbid sort 3; term 15; lost ends;");
        s.add(x -> x.licence(0, 3, 20)).add(x -> x.licence(0, 3, 20));
        s.bring(new int[][] {{0, 0, 100}, {1, 1, 50}, {2, 2, 40}, {0, 3, 5}, {1, 0, 30}, {1, 0, 10}, {2, 1, 8}});
        s.customUpTo(4).add(x -> x.custom(6)).add(x -> Checks.bit(x.rate(1, 3, 2)));
        s.add(x -> x.pay(0, 1, 31)).add(x -> x.pay(1, 0, 250));
        for (int ship = 0; ship < 5; ship++) {
            int fleet = ship / 2;
            int room = ship == 4 ? 25 : 40;
            if (ship % 2 == 0) {
                s.add(x -> x.fleet());
            }
            s.add(x -> x.ship(fleet, room));
        }
        s.load(0, 2, 40).load(1, 0, 10).load(1, 1, 30).load(2, 0, 35).load(3, 3, 5);
        s.add(x -> x.sail(0)).add(x -> x.sail(1)).add(x -> x.sink(0)).add(x -> x.sell(0, 100));
        s.day(20).add(x -> x.adopt(0)).add(x -> Checks.bit(x.undo(1)));
        s.adopt("duty is 3; forbid sort 3; lost ends;").adopt("lost is ").adopt("duty is ");
        return s.feed("duty is 7; term 9; lost ends;");
    }

    private static void aNewPort(Checks c) {
        Twins t = new Twins(c, new Script());
        t.refuse("day(0)", x -> Checks.bit(x.day(0)), 0);
        t.refuse("merchant(3)", x -> x.merchant(3), -1);
        t.refuse("adopt(1)", x -> x.adopt(1), -2);
        t.refuse("undo(0)", x -> Checks.bit(x.undo(0)), 0);
        t.refuse("licence(0, 0, 1)", x -> x.licence(0, 0, 1), -1);
        t.refuse("bring(0, 0, 0, 1)", x -> x.bring(0, 0, 0, 1), -2);
        t.refuse("custom(0)", x -> x.custom(0), -1);
        t.refuse("pay(0, 0, 1)", x -> x.pay(0, 0, 1), -1);
        t.refuse("ship(0, 1)", x -> x.ship(0, 1), -1);
        t.refuse("load(0, 11, 29, 1)", x -> x.load(0, 11, 29, 1), -2);
        t.refuse("sail(0)", x -> x.sail(0), -1);
        t.refuse("sink(0)", x -> x.sink(0), -1);
        t.refuse("sell(0, 1)", x -> x.sell(0, 1), -1);
    }

    private static void days(Twins t) {
        for (int day : new int[] {20, 19, 0, -1, 3001, LEAST, MOST}) {
            t.refuse("day(" + day + ")", x -> Checks.bit(x.day(day)), 0);
        }
        for (int man : new int[] {-1, 3, LEAST, MOST}) {
            t.refuse("merchant(" + man + ")", x -> x.merchant(man), -1);
        }
        for (int shire : new int[] {-1, 8, LEAST, MOST}) {
            t.refuse("grow(" + shire + ", 0, 5)", x -> x.grow(shire, 0, 5), -1);
        }
        for (int sort : new int[] {-1, 4, LEAST, MOST}) {
            t.refuse("grow(0, " + sort + ", 5)", x -> x.grow(0, sort, 5), -1);
        }
        for (int sacks : new int[] {-1, 1001, LEAST, MOST}) {
            t.refuse("grow(0, 0, " + sacks + ")", x -> x.grow(0, 0, sacks), -1);
        }
    }

    private static void statutes(Twins t) {
        for (int n : new int[] {-1, 41, LEAST, MOST}) {
            t.refuse("adopt(" + n + ")", x -> x.adopt(n), -2);
        }
        for (int statute : new int[] {-1, 1, 3, LEAST, MOST}) {
            t.refuse("undo(" + statute + ")", x -> Checks.bit(x.undo(statute)), 0);
        }
    }

    private static void licencesAndLots(Twins t) {
        for (int merchant : new int[] {-1, 3, LEAST, MOST}) {
            t.refuse("licence(" + merchant + ", 0, 5)", x -> x.licence(merchant, 0, 5), -1);
            t.refuse("bring(" + merchant + ", 0, 0, 5)", x -> x.bring(merchant, 0, 0, 5), -2);
        }
        for (int sort : new int[] {-1, 4, LEAST, MOST}) {
            t.refuse("licence(0, " + sort + ", 5)", x -> x.licence(0, sort, 5), -1);
            t.refuse("bring(0, 0, " + sort + ", 5)", x -> x.bring(0, 0, sort, 5), -2);
        }
        for (int shire : new int[] {-1, 8, LEAST, MOST}) {
            t.refuse("bring(0, " + shire + ", 0, 5)", x -> x.bring(0, shire, 0, 5), -2);
        }
        for (int sacks : new int[] {0, -1, 501, LEAST, MOST}) {
            t.refuse("licence(0, 3, " + sacks + ")", x -> x.licence(0, 3, sacks), -1);
            t.refuse("bring(0, 0, 3, " + sacks + ")", x -> x.bring(0, 0, 3, sacks), -2);
        }
        t.refuse("bring of one more than LICENCES have", x -> x.bring(0, 0, 3, 36), -3);
        t.refuse("bring of the most, FORBIDDEN", x -> x.bring(0, 0, 3, 500), -3);
        t.refuse("bring without a LICENCE", x -> x.bring(2, 0, 3, 1), -3);
        for (int lot : new int[] {-1, 0, 3, 6, 7, LEAST, MOST}) {
            t.refuse("custom(" + lot + ")", x -> x.custom(lot), -1);
        }
    }

    private static void coins(Twins t) {
        for (int kind : new int[] {-1, 0, 4, LEAST, MOST}) {
            t.refuse("rate(" + kind + ", 2, 1)", x -> Checks.bit(x.rate(kind, 2, 1)), 0);
        }
        for (int number : new int[] {-1, 0, 1001, LEAST, MOST}) {
            t.refuse("rate(1, " + number + ", 1)", x -> Checks.bit(x.rate(1, number, 1)), 0);
            t.refuse("rate(1, 9, " + number + ")", x -> Checks.bit(x.rate(1, 9, number)), 0);
        }
        for (int kind : new int[] {-1, 4, LEAST, MOST}) {
            t.refuse("pay(0, " + kind + ", 5)", x -> x.pay(0, kind, 5), -1);
        }
        for (int coins : new int[] {-1, 0, 100001, LEAST, MOST}) {
            t.refuse("pay(0, 0, " + coins + ")", x -> x.pay(0, 0, coins), -1);
        }
        // Paid, ended with a SHIP, FREE, not CUSTOMED, of DUTY 0; and no lots.
        for (int lot : new int[] {1, 2, 3, 5, 6, 7, -1, LEAST, MOST}) {
            t.refuse("pay(" + lot + ", 0, 5)", x -> x.pay(lot, 0, 5), -1);
        }
    }

    private static void shipsAndLoads(Twins t) {
        for (int fleet : new int[] {-1, 0, 1, 3, LEAST, MOST}) {
            t.refuse("ship(" + fleet + ", 5)", x -> x.ship(fleet, 5), -1);
        }
        for (int room : new int[] {-1, 0, 501, LEAST, MOST}) {
            t.refuse("ship(2, " + room + ")", x -> x.ship(2, room), -1);
        }
        for (int ship : new int[] {-1, 5, LEAST, MOST}) {
            t.refuse("load(" + ship + ", 11, 29, 1)", x -> x.load(ship, 11, 29, 1), -2);
        }
        for (int sacks : new int[] {-1, 0, 501, LEAST, MOST}) {
            t.refuse("load(4, 11, 29, " + sacks + ")", x -> x.load(4, 11, 29, sacks), -2);
        }
        t.refuse("load by one HALF twice", x -> x.load(4, 11, 11, 1), -3);
        t.refuse("load by the other twice", x -> x.load(4, 29, 29, 1), -3);
        t.refuse("load by HALVES of two lots", x -> x.load(4, 11, 1082, 1), -3);
        t.refuse("load of one not CUSTOMED", x -> x.load(4, 5196, 5294, 1), -3);
        t.refuse("load of no lot", x -> x.load(4, 7270, 7400, 1), -3);
        t.refuse("load of a sailed one", x -> x.load(2, 11, 29, 1), -4);
        t.refuse("load of a SOLD one", x -> x.load(1, 11, 29, 1), -4);
        t.refuse("load of one more than is left", x -> x.load(4, 11, 29, 56), -5);
        t.refuse("load where none is left", x -> x.load(4, 3122, 3188, 1), -5);
        t.refuse("load of one more than the ROOM", x -> x.load(4, 11, 29, 26), -6);
    }

    private static void sea(Twins t) {
        for (int fleet : new int[] {-1, 0, 1, 3, LEAST, MOST}) {
            t.refuse("sail(" + fleet + ")", x -> x.sail(fleet), -1);
        }
        // LOST, of a SOLD FLEET, in port; and no ships.
        for (int ship : new int[] {0, 1, 4, 5, -1, LEAST, MOST}) {
            t.refuse("sink(" + ship + ")", x -> x.sink(ship), -1);
        }
        for (int fleet : new int[] {0, 2, 3, -1, LEAST, MOST}) {
            t.refuse("sell(" + fleet + ", 77)", x -> x.sell(fleet, 77), -1);
        }
        for (int coins : new int[] {-1, 1000001, LEAST, MOST}) {
            t.refuse("sell(1, " + coins + ")", x -> x.sell(1, coins), -1);
        }
    }

    /** What only asks changes nothing, whether there is an answer or not. */
    private static void asking(Twins t) {
        t.refuse("fault()", x -> x.fault(), 8);
        t.refuse("force(20)", x -> x.force(20), 2);
        t.refuse("force(3001)", x -> x.force(3001), -1);
        t.refuse("force(-1)", x -> x.force(-1), -1);
        t.refuse("left(0)", x -> x.left(0), 15);
        t.refuse("left(2)", x -> x.left(2), -1);
        t.refuse("half(0, 0)", x -> x.half(0, 0), 11);
        t.refuse("half(0, 2)", x -> x.half(0, 2), -1);
        t.refuse("half(5, 0)", x -> x.half(5, 0), -1);
        t.refuse("lot(0, 3)", x -> x.lot(0, 3), 100);
        t.refuse("lot(0, 15)", x -> x.lot(0, 15), -1);
        t.refuse("lot(7, 0)", x -> x.lot(7, 0), -1);
        t.refuse("over(0)", x -> x.over(0), 0);
        t.refuse("over(7)", x -> x.over(7), 0);
        t.refuse("part(0, 0)", x -> x.part(0, 0), 31);
        t.refuse("part(0, 3)", x -> x.part(0, 3), -1);
        t.refuse("part(3, 0)", x -> x.part(3, 0), -1);
        t.refuse("part(1, 0)", x -> x.part(1, 0), 0);
        t.refuse("shipOf(0, 1)", x -> x.shipOf(0, 1), 40);
        t.refuse("shipOf(5, 0)", x -> x.shipOf(5, 0), -1);
        t.refuse("shipOf(0, 5)", x -> x.shipOf(0, 5), -1);
        t.refuse("sum(0, 0, 6)", x -> x.sum(0, 0, 6), 10);
        t.refuse("sum(0, 0, 7)", x -> x.sum(0, 0, 7), -100000);
        t.refuse("count(8)", x -> x.count(8), 2);
        t.refuse("count(11)", x -> x.count(11), -1);
    }

    private static void theLastDay(Checks c) {
        Script s = new Script().merchants(1).adopt("duty is 4; term 1;").bring(new int[] {0, 0, 5}).customUpTo(0);
        Twins t = new Twins(c, s.day(3000));
        for (int day : new int[] {2999, 3000, 3001}) {
            t.refuse("day(" + day + ") on day 3000", x -> Checks.bit(x.day(day)), 0);
        }
    }

    private static void twentyMerchants(Checks c) {
        Script s = new Script().merchants(20).adopt("forbid man 1; duty man 2 is 2; duty is 5;");
        Twins t = new Twins(c, s.bring(new int[] {0, 0, 5}, new int[] {19, 0, 5}));
        for (int man = 0; man < 3; man++) {
            int of = man;
            t.refuse("the 21st MERCHANT, of man " + man, x -> x.merchant(of), -1);
        }
    }

    private static void fullTape(Checks c) {
        Script s = new Script().merchants(1);
        Twins t = new Twins(c, s.feed("forbid sort 3;" + " ".repeat(566) + "duty is 5; term 60 ;"));
        t.refuse("feed behind 600 bytes", x -> x.feed(0x6c6f7374, 0x20656e64, 0x733b2020, 0, -1), -1);
        t.refuse("feed of blanks", x -> x.feed(0x20202020, 0x20202020, 0x20202020, 0x20202020, 0x20202020), -1);
        t.refuse("adopt(601)", x -> x.adopt(601), -2);
    }

    private static void twentyStatutes(Checks c) {
        Script s = new Script().merchants(2).adopt("duty is").times(18, i -> x -> x.adopt(0));
        s.adopt("duty is 3; forbid sort 3;").adopt("lost").adopt("duty is 4; forbid man 1; term 3;");
        s.bring(new int[] {0, 0, 5}).customUpTo(0).add(x -> Checks.bit(x.undo(18)));
        Twins t = new Twins(c, s.feed("duty is 9; now what?"));
        t.refuse("a 21st STATUTE", x -> x.adopt(10), -3);
        t.refuse("a 21st STATUTE without a text", x -> x.adopt(0), -3);
        t.refuse("a 21st STATUTE with a FAULT", x -> x.adopt(20), -3);
        t.refuse("adopt(21)", x -> x.adopt(21), -2);
        t.refuse("adopt(-1)", x -> x.adopt(-1), -2);
    }

    private static void fortyLicences(Checks c) {
        Script s = new Script().merchants(2).adopt("forbid sort 1;");
        s.times(40, i -> x -> x.licence(i % 2, i / 20, 1 + i)).bring(new int[] {1, 1, 23});
        Twins t = new Twins(c, s);
        t.refuse("the 41st LICENCE", x -> x.licence(0, 1, 5), -1);
        t.refuse("the 41st LICENCE, of 500", x -> x.licence(1, 3, 500), -1);
    }

    private static void manyLots(Checks c) {
        Script s = new Script().merchants(2).adopt("forbid sort 1; duty is 2;").add(x -> x.licence(0, 1, 9));
        s.times(150, i -> x -> x.bring(i % 2, i % 8, 0, 1 + i)).customUpTo(3);
        Twins t = new Twins(c, s);
        t.refuse("the 151st LOT", x -> x.bring(0, 0, 0, 5), -4);
        t.refuse("the 151st LOT, by LICENCE", x -> x.bring(0, 0, 1, 9), -4);
        t.refuse("the 151st LOT, FORBIDDEN", x -> x.bring(0, 0, 1, 10), -3);
        t.refuse("the 151st LOT, of 501 sacks", x -> x.bring(0, 0, 1, 501), -2);
        t.refuse("custom(150)", x -> x.custom(150), -1);
    }

    private static void twentyFleets(Checks c) {
        Script s = new Script().merchants(1).bring(new int[] {0, 0, 50}).customUpTo(0);
        s.times(20, i -> x -> x.fleet()).times(20, i -> x -> x.ship(i, 1 + i)).load(19, 0, 20).load(0, 0, 1);
        Twins t = new Twins(c, s.add(x -> x.sail(0)));
        t.refuse("the 21st FLEET", x -> x.fleet(), -1);
        t.refuse("ship(20, 1)", x -> x.ship(20, 1), -1);
        t.refuse("sail(20)", x -> x.sail(20), -1);
        t.refuse("sell(20, 1)", x -> x.sell(20, 1), -1);
    }

    private static void fortyShips(Checks c) {
        Script s = new Script().merchants(1).bring(new int[] {0, 0, 50}).customUpTo(0);
        s.times(3, i -> x -> x.fleet()).times(40, i -> x -> x.ship(i % 2, 1 + i)).load(39, 0, 40).load(0, 0, 1);
        Twins t = new Twins(c, s);
        for (int fleet = 0; fleet < 3; fleet++) {
            int of = fleet;
            t.refuse("the 41st SHIP, of FLEET " + fleet, x -> x.ship(of, 5), -1);
        }
        t.refuse("load(40, 11, 29, 1)", x -> x.load(40, 11, 29, 1), -2);
        t.refuse("sink(40)", x -> x.sink(40), -1);
    }

    private static void manyLoadings(Checks c) {
        Script s = new Script().merchants(2).adopt("duty is 1; lost ends;");
        s.bring(new int[] {0, 0, 300}, new int[] {1, 1, 300}).customUpTo(1).add(x -> x.fleet());
        s.add(x -> x.ship(0, 150)).add(x -> x.ship(0, 100));
        for (int i = 0; i < 200; i++) {
            s.load(i % 2, i / 100, 1);
        }
        Twins t = new Twins(c, s);
        t.refuse("the 201st loading", x -> x.load(0, 11, 29, 1), -7);
        t.refuse("the 201st loading, of all the ROOM", x -> x.load(0, 1082, 1048, 50), -7);
        t.refuse("the 201st loading, without ROOM", x -> x.load(1, 11, 29, 1), -6);
        t.refuse("the 201st loading, of too many", x -> x.load(0, 11, 29, 201), -5);
    }

    private RefusalTest() {
    }
}
