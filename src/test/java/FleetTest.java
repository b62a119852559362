/** Promises 19 to 26: fleet, ship, load, sail, sink, sell, part, shipOf. */
public final class FleetTest {
    private static final int[] FAR = {Integer.MIN_VALUE, -1000, -1, 1000000000, Integer.MAX_VALUE};

    public static void main(String[] args) {
        Checks c = new Checks("FleetTest");
        promise19Fleet(c);
        promise20Ship(c);
        promise21Load(c);
        promise21Halves(c);
        promise21Order(c);
        promise21Loadings(c);
        promise22Sail(c);
        promise23Sink(c);
        promise23BondsThatEnd(c);
        promise23TheStatuteOfToday(c);
        promise24Sell(c);
        promise24NothingToPart(c);
        promise25Part(c);
        promise25Remainders(c);
        promise25GreatNumbers(c);
        promise26ShipOf(c);
        c.end();
    }

    /** A port with merchants and for each of the rows {merchant, sort, sacks} a CUSTOMED lot. */
    private static StaplePort portWithLots(int merchants, int[][] rows) {
        StaplePort x = Checks.portWithMerchants(merchants);
        for (int[] row : rows) {
            x.custom(x.bring(row[0], 0, row[1], row[2]));
        }
        return x;
    }

    private static void promise19Fleet(Checks c) {
        StaplePort x = new StaplePort();
        for (int i = 0; i < 20; i++) {
            c.due("fleet " + i, x.fleet(), i);
            c.due("FLEETS", x.count(5), i + 1);
        }
        c.due("the 21st", x.fleet(), -1);
        c.due("FLEETS", x.count(5), 20);
        x.sail(3);
        c.due("when one sailed", x.fleet(), -1);
    }

    private static void promise20Ship(Checks c) {
        StaplePort x = new StaplePort();
        c.due("ship of no fleet", x.ship(0, 10), -1);
        x.fleet();
        x.fleet();
        c.due("ship of fleet 2", x.ship(2, 10), -1);
        c.due("room 0", x.ship(0, 0), -1);
        c.due("room 501", x.ship(0, 501), -1);
        for (int far : FAR) {
            c.due("ship(" + far + ", 10)", x.ship(far, 10), -1);
            c.due("ship(0, " + far + ")", x.ship(0, far), -1);
        }
        c.due("SHIPS", x.count(6), 0);
        c.due("room 1", x.ship(1, 1), 0);
        c.due("room 500", x.ship(0, 500), 1);
        c.due("SHIPS", x.count(6), 2);
        x.sail(0);
        c.due("ship of a fleet that sailed", x.ship(0, 5), -1);
        for (int i = 2; i < 40; i++) {
            c.due("ship " + i, x.ship(1, i), i);
        }
        c.due("the 41st", x.ship(1, 5), -1);
        c.due("SHIPS", x.count(6), 40);
    }

    private static void promise21Load(Checks c) {
        StaplePort x = portWithLots(2, new int[][] {{0, 0, 500}, {1, 1, 20}});
        x.fleet();
        x.ship(0, 500);
        x.ship(0, 15);
        c.due("load 1 of 20", Checks.loadLot(x, 1, 1, 1), 19);
        c.due("load 14 more: full", Checks.loadLot(x, 1, 1, 14), 5);
        c.due("load into a full one", Checks.loadLot(x, 1, 1, 1), -6);
        c.due("load 6 of 5", Checks.loadLot(x, 0, 1, 6), -5);
        c.due("load 5 of 5", Checks.loadLot(x, 0, 1, 5), 0);
        c.due("load 1 of 0", Checks.loadLot(x, 0, 1, 1), -5);
        c.due("sacks of ship 0", x.shipOf(0, 2), 5);
        c.due("sacks of ship 1", x.shipOf(1, 2), 15);
        c.due("loaded of lot 1", x.lot(1, 12), 20);
        c.due("room for 495", Checks.loadLot(x, 0, 0, 496), -6);
        c.due("load 495", Checks.loadLot(x, 0, 0, 495), 5);
        c.due("loaded of lot 0", x.lot(0, 12), 495);
        c.due("sacks of ship 0", x.shipOf(0, 2), 500);

        StaplePort y = portWithLots(1, new int[][] {{0, 0, 500}});
        y.fleet();
        y.ship(0, 500);
        c.due("load 500", Checks.loadLot(y, 0, 0, 500), 0);
    }

    private static void promise21Halves(Checks c) {
        StaplePort x = portWithLots(1, new int[][] {{0, 0, 100}, {0, 0, 100}, {0, 0, 100}});
        x.bring(0, 0, 0, 100);
        x.fleet();
        x.ship(0, 500);
        c.due("halves", x.load(0, 1048, 1082, 1), 99);
        c.due("the other one first", x.load(0, 1082, 1048, 1), 98);
        c.due("halves of lot 0", x.load(0, 11, 29, 1), 99);
        c.due("of lot 0, the other first", x.load(0, 29, 11, 1), 98);
        c.due("the first twice", x.load(0, 1048, 1048, 1), -3);
        c.due("the second twice", x.load(0, 1082, 1082, 1), -3);
        c.due("of two lots", x.load(0, 1048, 2135, 1), -3);
        c.due("of two lots", x.load(0, 2085, 1082, 1), -3);
        c.due("of two lots, likewise", x.load(0, 1082, 2085, 1), -3);
        c.due("one off", x.load(0, 1049, 1082, 1), -3);
        c.due("one off", x.load(0, 1048, 1081, 1), -3);
        c.due("a first one that is no half", x.load(0, 1000, 1082, 1), -3);
        c.due("of a lot not CUSTOMED", x.load(0, 3122, 3188, 1), -3);
        c.due("of no lot", x.load(0, 4159, 4241, 1), -3);
        c.due("below 0", x.load(0, -11, -29, 1), -3);
        c.due("below 0", x.load(0, 11 - 1000, 29 - 1000, 1), -3);
        c.due("zeros", x.load(0, 0, 0, 1), -3);
        for (int far : FAR) {
            c.due("load(0, " + far + ", 29, 1)", x.load(0, far, 29, 1), -3);
            c.due("load(0, 11, " + far + ", 1)", x.load(0, 11, far, 1), -3);
        }
        x.custom(3);
        c.due("when it is CUSTOMED", x.load(0, 3122, 3188, 1), 99);
        c.due("loaded of lot 1", x.lot(1, 12), 2);
        c.due("loaded of lot 2", x.lot(2, 12), 0);
        c.due("sacks", x.shipOf(0, 2), 5);
    }

    private static void promise21Order(Checks c) {
        StaplePort x = portWithLots(1, new int[][] {{0, 0, 10}});
        x.fleet();
        x.fleet();
        x.ship(0, 5);
        x.ship(1, 5);
        x.sail(1);
        c.due("-2 no such SHIP", x.load(2, 1, 1, 1), -2);
        c.due("-2 no such SHIP", x.load(-1, 11, 29, 1), -2);
        c.due("-2 0 sacks", x.load(0, 1, 1, 0), -2);
        c.due("-2 501 sacks", x.load(1, 11, 29, 501), -2);
        for (int far : FAR) {
            c.due("load(" + far + ", 11, 29, 1)", x.load(far, 11, 29, 1), -2);
            c.due("load(0, 11, 29, " + far + ")", x.load(0, 11, 29, far), -2);
        }
        c.due("-3 ahead of -4 and -5", x.load(1, 11, 11, 11), -3);
        c.due("-4 ahead of -5 and -6", x.load(1, 11, 29, 11), -4);
        c.due("-5 ahead of -6", x.load(0, 11, 29, 11), -5);
        c.due("-6", x.load(0, 11, 29, 6), -6);
        c.due("500 sacks", x.load(0, 11, 29, 500), -5);
        c.due("loaded", x.lot(0, 12), 0);
        c.due("sacks", x.shipOf(0, 2), 0);
        c.due("load", x.load(0, 29, 11, 5), 5);
    }

    private static void promise21Loadings(Checks c) {
        StaplePort x = portWithLots(1, new int[][] {{0, 0, 500}});
        x.fleet();
        x.ship(0, 100);
        x.ship(0, 200);
        x.load(0, 11, 29, 500);
        x.load(0, 11, 11, 1);
        for (int i = 0; i < 200; i++) {
            c.due("loading " + i, x.load(i % 2, 11, 29, 1), 499 - i);
        }
        c.due("the 201st", x.load(1, 11, 29, 1), -7);
        c.due("-6 ahead of -7", x.load(0, 29, 11, 1), -6);
        c.due("-5 ahead of -7", x.load(1, 29, 11, 301), -5);
        c.due("loaded", x.lot(0, 12), 200);
        c.due("sacks", x.shipOf(1, 2), 100);
        x.fleet();
        x.ship(1, 5);
        c.due("of another FLEET", x.load(2, 11, 29, 1), -7);
        c.due("sail", x.sail(0), 200);
        x.sink(0);
        c.due("-7 stays", x.load(2, 11, 29, 1), -7);
        c.due("LOST", x.lot(0, 13), 100);
    }

    private static void promise22Sail(Checks c) {
        StaplePort x = portWithLots(1, new int[][] {{0, 0, 100}, {0, 1, 50}});
        c.due("sail(0) of none", x.sail(0), -1);
        x.fleet();
        x.fleet();
        x.fleet();
        x.ship(0, 60);
        x.ship(1, 60);
        x.ship(0, 60);
        Checks.loadLot(x, 0, 0, 60);
        Checks.loadLot(x, 1, 0, 7);
        Checks.loadLot(x, 2, 1, 20);
        for (int far : FAR) {
            c.due("sail(" + far + ")", x.sail(far), -1);
        }
        c.due("sail(3)", x.sail(3), -1);
        c.due("sailed", x.shipOf(0, 4), 0);
        c.due("sail(0)", x.sail(0), 80);
        c.due("sailed", x.shipOf(0, 4), 1);
        c.due("sailed", x.shipOf(1, 4), 0);
        c.due("sailed", x.shipOf(2, 4), 1);
        c.due("sail(0) again", x.sail(0), -1);
        c.due("sail of an empty one", x.sail(2), 0);
        c.due("load that stays in port", Checks.loadLot(x, 1, 0, 1), 32);
        c.due("load at sea", Checks.loadLot(x, 2, 0, 1), -4);
        c.due("sail(1)", x.sail(1), 8);
    }

    private static void promise23Sink(Checks c) {
        StaplePort x = portWithLots(1, new int[][] {{0, 0, 100}});
        c.due("sink(0) of none", x.sink(0), -1);
        x.fleet();
        x.fleet();
        x.ship(0, 10);
        x.ship(0, 10);
        x.ship(0, 10);
        x.ship(1, 10);
        Checks.loadLot(x, 0, 0, 10);
        Checks.loadLot(x, 1, 0, 5);
        Checks.loadLot(x, 3, 0, 3);
        c.due("sink ahead of sail", x.sink(0), -1);
        x.sail(0);
        for (int far : FAR) {
            c.due("sink(" + far + ")", x.sink(far), -1);
        }
        c.due("sink(4)", x.sink(4), -1);
        c.due("sink in port", x.sink(3), -1);
        c.due("LOST", x.lot(0, 13), 0);
        c.due("sink(0)", x.sink(0), 0);
        c.due("LOST", x.shipOf(0, 3), 1);
        c.due("LOST", x.shipOf(1, 3), 0);
        c.due("LOST", x.lot(0, 13), 10);
        c.due("sink(0) again", x.sink(0), -1);
        c.due("LOST", x.lot(0, 13), 10);
        c.due("sink of an empty one", x.sink(2), 0);
        x.sell(0, 5);
        c.due("sink of a SOLD one", x.sink(1), -1);
        c.due("LOST", x.shipOf(1, 3), 0);
        x.sail(1);
        c.due("sink(3)", x.sink(3), 0);
        c.due("LOST", x.lot(0, 13), 13);
    }

    private static void promise23BondsThatEnd(Checks c) {
        StaplePort x = Checks.portWithMerchants(1);
        Checks.adoptText(x, "duty sort 0 is 2; lost ends;");
        int[] sorts = {0, 0, 0, 1, 0, 0};
        for (int sort : sorts) {
            x.custom(x.bring(0, 0, sort, 30));
        }
        x.fleet();
        x.ship(0, 500);
        x.ship(0, 500);
        int[][] loadings = {{0, 0}, {0, 0}, {0, 1}, {0, 2}, {0, 3}, {1, 4}, {1, 0}};
        for (int[] row : loadings) {
            Checks.loadLot(x, row[0], row[1], 5);
        }
        x.pay(2, 0, 60);
        x.pay(1, 0, 59);
        x.sail(0);
        c.due("open", x.count(8), 4);
        c.due("sink(0)", x.sink(0), 2);
        int[] bonds = {3, 3, 2, 0, 1, 1};
        int[] lost = {10, 5, 5, 5, 0, 0};
        for (int lot = 0; lot < 6; lot++) {
            c.due("BOND of " + lot, x.lot(lot, 8), bonds[lot]);
            c.due("LOST of " + lot, x.lot(lot, 13), lost[lot]);
        }
        c.due("open", x.count(8), 2);
        c.due("pay on one that ended", x.pay(1, 0, 1), -1);
        c.due("what was paid on it", x.lot(1, 10), 59);
        c.due("paid in all", x.count(10), 119);
        c.due("sink(1)", x.sink(1), 1);
        c.due("BOND of 4", x.lot(4, 8), 3);
        c.due("BOND of 5", x.lot(5, 8), 1);
        c.due("LOST of 0", x.lot(0, 13), 15);
        c.due("loaded of 0", x.lot(0, 12), 15);
    }

    private static void promise23TheStatuteOfToday(Checks c) {
        StaplePort x = Checks.portWithMerchants(1);
        Checks.adoptText(x, "duty is 2; lost ends;");
        for (int i = 0; i < 4; i++) {
            x.custom(x.bring(0, 0, 0, 10));
            x.ship(i == 0 ? x.fleet() : 0, 10);
            Checks.loadLot(x, i, i, 10);
        }
        x.sail(0);
        x.day(1);
        Checks.adoptText(x, "duty is 2;");
        c.due("stands by the latest", x.sink(0), 0);
        c.due("BOND", x.lot(0, 8), 1);
        c.due("LOST", x.lot(0, 13), 10);
        x.undo(1);
        c.due("ends when that is UNDONE", x.sink(1), 1);
        c.due("BOND", x.lot(0, 8), 1);
        c.due("BOND", x.lot(1, 8), 3);
        x.undo(0);
        c.due("stands without a STATUTE", x.sink(2), 0);
        c.due("BOND", x.lot(2, 8), 1);
    }

    private static void promise24Sell(Checks c) {
        StaplePort x = portWithLots(2, new int[][] {{0, 0, 10}, {1, 3, 40}});
        c.due("sell of none", x.sell(0, 5), -1);
        x.fleet();
        x.fleet();
        x.ship(0, 50);
        Checks.loadLot(x, 0, 0, 10);
        Checks.loadLot(x, 0, 1, 40);
        c.due("sell ahead of sail", x.sell(0, 5), -1);
        x.sail(0);
        for (int far : FAR) {
            c.due("sell(" + far + ", 5)", x.sell(far, 5), -1);
            c.due("sell(0, " + far + ")", x.sell(0, far), -1);
        }
        c.due("sell(2, 5)", x.sell(2, 5), -1);
        c.due("sell(1, 5) in port", x.sell(1, 5), -1);
        c.due("sell for 1000001", x.sell(0, 1000001), -1);
        c.due("part, not SOLD", x.part(0, 0), 0);
        c.due("sell for 1000000", x.sell(0, 1000000), 1000000);
        c.due("part(0, 0)", x.part(0, 0), 500000);
        c.due("part(0, 1)", x.part(0, 1), 500000);
        c.due("sell again", x.sell(0, 7), -1);
        c.due("part(0, 0)", x.part(0, 0), 500000);
    }

    private static void promise24NothingToPart(Checks c) {
        StaplePort x = portWithLots(2, new int[][] {{0, 0, 10}, {1, 3, 40}});
        x.fleet();
        x.fleet();
        x.fleet();
        x.ship(0, 10);
        x.ship(1, 10);
        Checks.loadLot(x, 0, 0, 10);
        Checks.loadLot(x, 1, 1, 10);
        x.sail(0);
        x.sail(1);
        x.sail(2);
        x.sink(0);
        c.due("sell where all is LOST", x.sell(0, 1000), 0);
        c.due("part", x.part(0, 0), 0);
        c.due("part", x.part(0, 1), 0);
        c.due("it is SOLD", x.sell(0, 1000), -1);
        c.due("sell without ships", x.sell(2, 1000), 0);
        c.due("it is SOLD", x.sell(2, 1000), -1);
        c.due("sell for 0", x.sell(1, 0), 0);
        c.due("part", x.part(1, 1), 0);
        c.due("it is SOLD", x.sell(1, 10), -1);
        c.due("sink of a SOLD one", x.sink(1), -1);
    }

    private static void promise25Part(Checks c) {
        StaplePort x = portWithLots(3, new int[][] {{0, 1, 50}, {1, 2, 50}, {0, 3, 50}, {1, 0, 50}});
        c.due("part of no FLEET", x.part(0, 0), -1);
        x.fleet();
        x.fleet();
        x.ship(0, 100);
        x.ship(0, 100);
        x.ship(0, 100);
        x.ship(1, 100);
        Checks.loadLot(x, 0, 0, 10);
        Checks.loadLot(x, 1, 1, 10);
        Checks.loadLot(x, 1, 2, 20);
        Checks.loadLot(x, 2, 1, 30);
        Checks.loadLot(x, 3, 3, 50);
        Checks.loadLot(x, 0, 0, 5);
        x.sail(0);
        x.sink(2);
        // Left are 15 sacks at 3 and 20 at 1 of merchant 0, and 10 at 2 of merchant 1: 65 and 20.
        c.due("sell(0, 850)", x.sell(0, 850), 850);
        c.due("part(0, 0)", x.part(0, 0), 650);
        c.due("part(0, 1)", x.part(0, 1), 200);
        c.due("part(0, 2)", x.part(0, 2), 0);
        c.due("part(0, 3)", x.part(0, 3), -1);
        c.due("part(1, 1), not SOLD", x.part(1, 1), 0);
        c.due("part(2, 1)", x.part(2, 1), -1);
        for (int far : FAR) {
            c.due("part(" + far + ", 0)", x.part(far, 0), -1);
            c.due("part(0, " + far + ")", x.part(0, far), -1);
        }
        x.merchant(1);
        c.due("part of a later merchant", x.part(0, 3), 0);
        x.sail(1);
        c.due("sell(1, 9)", x.sell(1, 9), 9);
        c.due("part(1, 1)", x.part(1, 1), 9);
        c.due("part(0, 1)", x.part(0, 1), 200);
    }

    private static void promise25Remainders(Checks c) {
        // Equal remainders: the lesser numbers first.
        parted(c, 100, new int[] {1, 1, 1}, new int[] {34, 33, 33});
        parted(c, 101, new int[] {1, 1, 1}, new int[] {34, 34, 33});
        parted(c, 1, new int[] {5, 5, 5}, new int[] {1, 0, 0});
        parted(c, 77, new int[] {0, 1}, new int[] {0, 77});
        parted(c, 2, new int[] {0, 5, 5, 5, 0}, new int[] {0, 1, 1, 0, 0});
        // The greatest remainder first, wherever it is: of 10 by 7, 7/10 2/10 1/10.
        parted(c, 11, new int[] {7, 2, 1}, new int[] {8, 2, 1});
        parted(c, 11, new int[] {1, 2, 7}, new int[] {1, 2, 8});
        parted(c, 13, new int[] {1, 2, 7}, new int[] {1, 3, 9});
        parted(c, 16, new int[] {1, 2, 7}, new int[] {2, 3, 11});
        parted(c, 16, new int[] {3, 3, 4}, new int[] {5, 5, 6});
        parted(c, 17, new int[] {3, 3, 4}, new int[] {5, 5, 7});
        parted(c, 19, new int[] {3, 3, 3, 1}, new int[] {6, 6, 5, 2});
        parted(c, 3, new int[] {1, 1, 1, 1, 1, 1, 1}, new int[] {1, 1, 1, 0, 0, 0, 0});
    }

    /** The sacks, all of SORT 3, are of one merchant each, whose lots come from the last to the first. */
    private static void parted(Checks c, int coins, int[] sacks, int[] due) {
        StaplePort x = Checks.portWithMerchants(sacks.length);
        x.fleet();
        x.ship(0, 500);
        for (int m = sacks.length - 1; m >= 0; m--) {
            if (sacks[m] > 0) {
                int lot = x.bring(m, 0, 3, sacks[m]);
                x.custom(lot);
                Checks.loadLot(x, 0, lot, sacks[m]);
            }
        }
        x.sail(0);
        c.due("sell for " + coins, x.sell(0, coins), coins);
        for (int m = 0; m < due.length; m++) {
            c.due("part of " + m + " of " + coins, x.part(0, m), due[m]);
        }
    }

    private static void promise25GreatNumbers(Checks c) {
        StaplePort x = Checks.portWithMerchants(20);
        x.fleet();
        for (int m = 0; m < 20; m++) {
            x.ship(0, 500);
            x.ship(0, 500);
            x.custom(x.bring(m, 0, 0, 500));
            x.custom(x.bring(m, 0, 0, 500));
            Checks.loadLot(x, 2 * m, 2 * m, 500);
            if (m < 19) {
                Checks.loadLot(x, 2 * m + 1, 2 * m + 1, 500);
            }
        }
        c.due("sail", x.sail(0), 19500);
        c.due("sell", x.sell(0, 999999), 999999);
        // 999999 by 39: 25640 and 39/39 of it: each pair 51282, the rest 51282/2 = 25641.
        for (int m = 0; m < 19; m++) {
            c.due("part of " + m, x.part(0, m), 51282);
        }
        c.due("part of 19", x.part(0, 19), 25641);
    }

    private static void promise26ShipOf(Checks c) {
        StaplePort x = portWithLots(1, new int[][] {{0, 0, 100}});
        x.fleet();
        x.fleet();
        x.ship(1, 33);
        x.ship(0, 44);
        Checks.loadLot(x, 0, 0, 12);
        shipIs(c, x, 0, 1, 33, 12, 0, 0);
        shipIs(c, x, 1, 0, 44, 0, 0, 0);
        x.sail(1);
        shipIs(c, x, 0, 1, 33, 12, 0, 1);
        shipIs(c, x, 1, 0, 44, 0, 0, 0);
        x.sink(0);
        shipIs(c, x, 0, 1, 33, 12, 1, 1);
        c.due("shipOf(0, 5)", x.shipOf(0, 5), -1);
        c.due("shipOf(0, -1)", x.shipOf(0, -1), -1);
        for (int far : FAR) {
            c.due("shipOf(0, " + far + ")", x.shipOf(0, far), -1);
            c.due("shipOf(" + far + ", 1)", x.shipOf(far, 1), -1);
        }
        for (int what = 0; what < 5; what++) {
            c.due("shipOf(2, " + what + ")", x.shipOf(2, what), -1);
        }
    }

    private static void shipIs(Checks c, StaplePort x, int ship, int... due) {
        for (int what = 0; what < due.length; what++) {
            c.due("shipOf(" + ship + ", " + what + ")", x.shipOf(ship, what), due[what]);
        }
    }

    private FleetTest() {
    }
}
