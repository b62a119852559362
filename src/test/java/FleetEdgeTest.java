/** Promises 19 to 23 and 26 at their edges, a test for each sentence: fleet, ship, load, sail, sink, shipOf. */
public final class FleetEdgeTest {
    public static void main(String[] args) {
        Checks c = new Checks("FleetEdgeTest");
        promise19UpTo20(c);
        promise20Room(c);
        promise20NoneSuch(c);
        promise20ItSailed(c);
        promise20UpTo40InAll(c);
        promise21NoSuchShip(c);
        promise21NoSuchSacks(c);
        promise21EitherFirst(c);
        promise21OneOfEach(c);
        promise21OfOneCustomedLot(c);
        promise21TheFleetSailed(c);
        promise21AsManyLeft(c);
        promise21TheShipsRoom(c);
        promise21UpTo200(c);
        promise21TheFirstOf(c);
        promise22NoneSuch(c);
        promise22HowManySacks(c);
        promise22Once(c);
        promise23NoneSuch(c);
        promise23HasntSailed(c);
        promise23ItIs(c);
        promise23ItsFleetIsSold(c);
        promise23HowManyBonds(c);
        promise23TheMostBonds(c);
        promise23IfTheStatuteSaysSo(c);
        promise26NoneSuch(c);
        promise26TheLeastAndTheMost(c);
        c.end();
    }

    /** A FLEET with a SHIP of ROOM 50, and a CUSTOMED lot of 30 sacks for each of the SORTS. */
    private static Script port(int... sorts) {
        Script s = new Script().merchants(1).times(sorts.length, i -> x -> x.bring(0, 0, sorts[i], 30));
        return s.customUpTo(sorts.length - 1).add(x -> x.fleet()).add(x -> x.ship(0, 50));
    }

    private static void promise19UpTo20(Checks c) {
        c.says("A FLEET: its number. NONE: 20 are there.");
        StaplePort x = new StaplePort();
        for (int i = 0; i < 20; i++) {
            c.due("fleet " + i, x.fleet(), i);
        }
        c.due("the 21st", x.fleet(), -1);
        c.due("FLEETS", x.count(5), 20);
        x.sail(0);
        x.sell(0, 1);
        c.due("the 21st, when one is SOLD", x.fleet(), -1);
        c.due("ship of the 20th", x.ship(19, 1), 0);
        c.due("ship of a 21st", x.ship(20, 1), -1);
    }

    private static void promise20Room(Checks c) {
        c.says("A SHIP (ROOM 1 to 500) of a FLEET: its number.");
        Script one = new Script().add(x -> x.fleet());
        c.range("ship of room", 1, 500, room -> one.port().ship(0, room), room -> 0, -1);
        c.range("its room", 1, 500, room -> {
            StaplePort x = one.port();
            x.ship(0, room);
            return x.shipOf(0, 1);
        }, room -> room, -1);
    }

    private static void promise20NoneSuch(Checks c) {
        c.says("NONE, doing nothing: none such");
        c.due("ship of no FLEET", new StaplePort().ship(0, 1), -1);
        Script three = new Script().times(3, i -> x -> x.fleet());
        c.range("ship of one of three", 0, 2, fleet -> three.port().ship(fleet, 9), fleet -> 0, -1);
        Script twenty = new Script().times(20, i -> x -> x.fleet());
        c.range("ship of one of 20", 0, 19, fleet -> twenty.port().ship(fleet, 9), fleet -> 0, -1);
    }

    private static void promise20ItSailed(Checks c) {
        c.says("none such, it sailed");
        StaplePort x = new Script().times(2, i -> y -> y.fleet()).add(y -> y.ship(0, 9)).port();
        x.sail(0);
        c.due("ship of one that sailed", x.ship(0, 9), -1);
        c.due("ship of one that didn't", x.ship(1, 9), 1);
        x.sell(0, 9);
        c.due("ship of a SOLD one", x.ship(0, 9), -1);
        c.due("SHIPS", x.count(6), 2);
    }

    private static void promise20UpTo40InAll(Checks c) {
        c.says("SHIPS (up to 40 in all)");
        StaplePort x = new Script().times(20, i -> y -> y.fleet()).port();
        for (int i = 0; i < 40; i++) {
            c.due("one that is refused", x.ship(0, 501), -1);
            c.due("ship " + i, x.ship(i % 19, i + 1), i);
        }
        c.due("the 41st, of one with ships", x.ship(0, 9), -1);
        c.due("the 41st, of one without", x.ship(19, 9), -1);
        c.due("SHIPS", x.count(6), 40);
        c.due("ROOM of the 40th", x.shipOf(39, 1), 40);
        c.due("shipOf(40, 1)", x.shipOf(40, 1), -1);
        StaplePort y = new StaplePort();
        y.fleet();
        for (int i = 0; i < 40; i++) {
            c.due("ship " + i + " of one FLEET", y.ship(0, 9), i);
        }
        c.due("the 41st of it", y.ship(0, 9), -1);
        y.sail(0);
        y.sink(0);
        y.fleet();
        c.due("the 41st, when one is LOST", y.ship(1, 9), -1);
    }

    private static void promise21NoSuchShip(Checks c) {
        c.says("-2 no such SHIP");
        c.due("load without ships", new StaplePort().load(0, 11, 29, 1), -2);
        Script three = port(0).add(x -> x.ship(0, 9)).add(x -> x.ship(0, 9));
        c.range("load into one of three", 0, 2, ship -> three.port().load(ship, 11, 29, 1), ship -> 29, -2);
        Script forty = port(0).times(39, i -> x -> x.ship(0, 9));
        c.range("load into one of 40", 0, 39, ship -> forty.port().load(ship, 11, 29, 1), ship -> 29, -2);
    }

    private static void promise21NoSuchSacks(Checks c) {
        c.says("So many sacks (1 to 500) .. -2 no such SHIP, sacks");
        Script great = new Script().merchants(1).bring(new int[] {0, 0, 500}).customUpTo(0).add(x -> x.fleet())
                .add(x -> x.ship(0, 500));
        c.range("load of sacks", 1, 500, n -> great.port().load(0, 11, 29, n), n -> 500 - n, -2);
    }

    private static void promise21EitherFirst(Checks c) {
        c.says("are loaded by its HALVES (either first)");
        StaplePort x = port(0, 0).port();
        c.due("first, second", x.load(0, 11, 29, 1), 29);
        c.due("second, first", x.load(0, 29, 11, 1), 28);
        c.due("first, second", x.load(0, 1048, 1082, 1), 29);
        c.due("second, first", x.load(0, 1082, 1048, 1), 28);
        Script many = new Script().merchants(1).times(150, i -> y -> y.bring(0, 0, 0, 2)).customUpTo(149);
        StaplePort z = many.add(y -> y.fleet()).add(y -> y.ship(0, 500)).port();
        for (int lot = 0; lot < 100; lot++) {
            int of = 149 - lot;
            int first = Script.firstHalf(of);
            int second = Script.secondHalf(of);
            c.due("load of " + of, z.load(0, lot % 2 == 0 ? first : second, lot % 2 == 0 ? second : first, 1), 1);
            c.due("loaded of " + of, z.lot(of, 12), 1);
        }
    }

    private static void promise21OneOfEach(Checks c) {
        c.says("-3 the HALVES aren't those of one CUSTOMED LOT, one of each");
        StaplePort x = port(0, 0).port();
        int[][] wrong = {{11, 11}, {29, 29}, {1048, 1048}, {1082, 1082}, {11, 1082}, {1082, 11}, {11, 1048},
            {29, 1082}, {10, 29}, {12, 29}, {11, 28}, {11, 30}, {1047, 1082}, {1049, 1082}, {1048, 1081},
            {1048, 1083}, {0, 0}, {0, 1}, {-11, -29}, {11 - 1000, 29 - 1000}, {-1, -1}, {11, 1029}, {1011, 29},
            {Integer.MIN_VALUE, 29}, {11, Integer.MIN_VALUE}, {Integer.MAX_VALUE, 29}, {11, Integer.MAX_VALUE},
            {Integer.MIN_VALUE, Integer.MIN_VALUE}, {Integer.MAX_VALUE, Integer.MAX_VALUE}};
        for (int[] row : wrong) {
            c.due("load by " + row[0] + ", " + row[1], x.load(0, row[0], row[1], 1), -3);
        }
        c.due("loaded", x.lot(0, 12), 0);
        c.due("loaded", x.lot(1, 12), 0);
        c.due("sacks", x.shipOf(0, 2), 0);
    }

    private static void promise21OfOneCustomedLot(Checks c) {
        c.says("-3 the HALVES aren't those of one CUSTOMED LOT");
        StaplePort x = port(0).add(y -> y.bring(0, 0, 0, 30)).port();
        c.due("of one not CUSTOMED", x.load(0, 1048, 1082, 1), -3);
        c.due("of the next, not brought", x.load(0, 2085, 2135, 1), -3);
        x.custom(1);
        c.due("when it is CUSTOMED", x.load(0, 1048, 1082, 1), 29);
        Script all = new Script().merchants(1).times(150, i -> y -> y.bring(0, 0, 0, 2)).customUpTo(149);
        StaplePort z = all.add(y -> y.fleet()).add(y -> y.ship(0, 500)).port();
        c.due("of the 150th", z.load(0, 149539, 149947, 1), 1);
        c.due("of a 151st", z.load(0, Script.firstHalf(150), Script.secondHalf(150), 1), -3);
    }

    private static void promise21TheFleetSailed(Checks c) {
        c.says("They are loaded till the FLEET sails .. -4 the FLEET sailed");
        StaplePort x = port(0).add(y -> y.ship(0, 9)).add(y -> y.fleet()).add(y -> y.ship(1, 9)).port();
        c.due("load ahead of sail", x.load(0, 11, 29, 1), 29);
        x.sail(0);
        c.due("load behind it", x.load(0, 11, 29, 1), -4);
        c.due("load of another SHIP of it", x.load(1, 11, 29, 1), -4);
        c.due("load of another FLEET", x.load(2, 11, 29, 1), 28);
        x.sink(0);
        c.due("load of a LOST one", x.load(0, 11, 29, 1), -4);
        x.sell(0, 1);
        c.due("load of a SOLD one", x.load(1, 11, 29, 1), -4);
        c.due("loaded", x.lot(0, 12), 2);
    }

    private static void promise21AsManyLeft(Checks c) {
        c.says("its sacks that aren't loaded then .. -5 it hasn't as many left");
        StaplePort x = port(0).add(y -> y.ship(0, 50)).port();
        c.due("31 of 30", x.load(0, 11, 29, 31), -5);
        c.due("1 of 30", x.load(0, 11, 29, 1), 29);
        c.due("30 of 29", x.load(0, 11, 29, 30), -5);
        c.due("28 of 29", x.load(1, 11, 29, 28), 1);
        c.due("2 of 1", x.load(0, 11, 29, 2), -5);
        c.due("1 of 1", x.load(0, 11, 29, 1), 0);
        c.due("1 of 0", x.load(0, 11, 29, 1), -5);
        c.due("30 of 30 at once", port(0).port().load(0, 11, 29, 30), 0);
        x.sail(0);
        x.sink(0);
        x.fleet();
        x.ship(1, 9);
        c.due("those LOST aren't left", x.load(2, 11, 29, 1), -5);
    }

    private static void promise21TheShipsRoom(Checks c) {
        c.says("-6 the SHIP's ROOM");
        StaplePort x = port(0, 0, 0).port();
        c.due("30 of 50", x.load(0, 11, 29, 30), 0);
        c.due("21 of 20", x.load(0, 1048, 1082, 21), -6);
        c.due("19 of 20", x.load(0, 1048, 1082, 19), 11);
        c.due("2 of 1", x.load(0, 1048, 1082, 2), -6);
        c.due("1 of 1, of another lot", x.load(0, 2085, 2135, 1), 29);
        c.due("1 of 0", x.load(0, 2085, 2135, 1), -6);
        c.due("sacks", x.shipOf(0, 2), 50);
        StaplePort y = port(0).add(z -> z.ship(0, 1)).port();
        c.due("2 into ROOM 1", y.load(1, 11, 29, 2), -6);
        c.due("1 into ROOM 1", y.load(1, 11, 29, 1), 29);
        c.due("1 more", y.load(1, 11, 29, 1), -6);
        c.due("into another one", y.load(0, 11, 29, 29), 0);
    }

    private static void promise21UpTo200(Checks c) {
        c.says("-7 200 loadings were made");
        Script s = new Script().merchants(1).bring(new int[] {0, 0, 500}).customUpTo(0).add(x -> x.fleet());
        StaplePort x = s.add(y -> y.ship(0, 300)).add(y -> y.fleet()).add(y -> y.ship(1, 200)).port();
        for (int i = 0; i < 200; i++) {
            c.due("one that is refused", x.load(0, 11, 11, 1), -3);
            c.due("loading " + i, x.load(i % 2, 11, 29, 1), 499 - i);
        }
        c.due("the 201st", x.load(0, 11, 29, 1), -7);
        c.due("the 201st, of all that is left", x.load(0, 29, 11, 200), -7);
        x.sail(1);
        x.sink(1);
        c.due("the 201st, when some are LOST", x.load(0, 11, 29, 1), -7);
        c.due("loaded", x.lot(0, 12), 200);
        c.due("sacks", x.shipOf(0, 2), 100);
        c.due("LOST", x.lot(0, 13), 100);
    }

    private static void promise21TheFirstOf(Checks c) {
        c.says("Nothing is done at the first of");
        Script s = new Script().merchants(1).bring(new int[] {0, 0, 300}).customUpTo(0).times(2, i -> x -> x.fleet());
        s.add(x -> x.ship(0, 250)).add(x -> x.ship(1, 9)).add(x -> x.sail(1));
        for (int i = 0; i < 200; i++) {
            s.load(0, 0, 1);
        }
        StaplePort x = s.port();
        c.due("-2 by the SHIP, ahead of all", x.load(2, 11, 11, 999), -2);
        c.due("-2 by the sacks, ahead of -3 to -7", x.load(1, 11, 11, 501), -2);
        c.due("-3 ahead of -4 to -7", x.load(1, 11, 11, 101), -3);
        c.due("-4 ahead of -5 to -7", x.load(1, 11, 29, 101), -4);
        c.due("-5 ahead of -6 and -7", x.load(0, 11, 29, 101), -5);
        c.due("-6 ahead of -7", x.load(0, 11, 29, 51), -6);
        c.due("-7", x.load(0, 11, 29, 50), -7);
        c.due("loaded", x.lot(0, 12), 200);
    }

    private static void promise22NoneSuch(Checks c) {
        c.says("A FLEET sails: how many sacks. NONE, doing nothing: none such");
        c.due("sail(0) of none", new StaplePort().sail(0), -1);
        Script three = new Script().times(3, i -> x -> x.fleet());
        c.range("sail of one of three", 0, 2, fleet -> three.port().sail(fleet), fleet -> 0, -1);
        Script twenty = new Script().times(20, i -> x -> x.fleet());
        c.range("sail of one of 20", 0, 19, fleet -> twenty.port().sail(fleet), fleet -> 0, -1);
    }

    private static void promise22HowManySacks(Checks c) {
        c.says("how many sacks");
        c.due("sail without SHIPS", new Script().add(x -> x.fleet()).port().sail(0), 0);
        c.due("sail without sacks", port(0).port().sail(0), 0);
        c.due("sail with one", port(0).load(0, 0, 1).port().sail(0), 1);
        StaplePort x = port(0).load(0, 0, 5).add(y -> y.fleet()).add(y -> y.ship(1, 9)).load(1, 0, 7).port();
        c.due("sail of the other", x.sail(1), 7);
        c.due("sail of the one", x.sail(0), 5);
        Script full = new Script().merchants(1).times(40, i -> y -> y.bring(0, 0, 0, 500)).customUpTo(39);
        full.add(y -> y.fleet()).times(40, i -> y -> y.ship(0, 500));
        for (int i = 0; i < 40; i++) {
            full.load(i, i, 500);
        }
        c.due("sail of all that can be", full.port().sail(0), 20000);
    }

    private static void promise22Once(Checks c) {
        c.says("NONE, doing nothing: none such, it sailed.");
        StaplePort x = port(0).load(0, 0, 5).port();
        c.due("sail(0)", x.sail(0), 5);
        c.due("sail(0) again", x.sail(0), -1);
        x.day(9);
        c.due("sail(0) on a later day", x.sail(0), -1);
        x.sink(0);
        c.due("sail(0), its SHIP LOST", x.sail(0), -1);
        x.sell(0, 9);
        c.due("sail(0), SOLD", x.sail(0), -1);
        c.due("it sailed", x.shipOf(0, 4), 1);
    }

    private static void promise23NoneSuch(Checks c) {
        c.says("A SHIP is LOST: how many BONDS end. NONE, doing nothing: none such");
        c.due("sink(0) of none", new StaplePort().sink(0), -1);
        Script three = new Script().add(x -> x.fleet()).times(3, i -> x -> x.ship(0, 9)).add(x -> x.sail(0));
        c.range("sink of one of three", 0, 2, ship -> three.port().sink(ship), ship -> 0, -1);
        Script forty = new Script().add(x -> x.fleet()).times(40, i -> x -> x.ship(0, 9)).add(x -> x.sail(0));
        c.range("sink of one of 40", 0, 39, ship -> forty.port().sink(ship), ship -> 0, -1);
    }

    private static void promise23HasntSailed(Checks c) {
        c.says("its FLEET hasn't sailed");
        StaplePort x = port(0).load(0, 0, 5).add(y -> y.fleet()).add(y -> y.ship(1, 9)).port();
        c.due("sink(0)", x.sink(0), -1);
        x.sail(1);
        c.due("sink(0), another FLEET sailed", x.sink(0), -1);
        c.due("LOST", x.shipOf(0, 3), 0);
        c.due("LOST of the lot", x.lot(0, 13), 0);
        x.sail(0);
        c.due("sink(0), it sailed", x.sink(0), 0);
        c.due("LOST", x.shipOf(0, 3), 1);
        c.due("LOST of the lot", x.lot(0, 13), 5);
        c.due("LOST of the other SHIP", x.shipOf(1, 3), 0);
    }

    private static void promise23ItIs(Checks c) {
        c.says("its FLEET hasn't sailed, it is");
        StaplePort x = port(0).load(0, 0, 5).add(y -> y.sail(0)).port();
        c.due("sink(0)", x.sink(0), 0);
        c.due("sink(0) again", x.sink(0), -1);
        c.due("LOST of the lot", x.lot(0, 13), 5);
        c.due("LOST in sum", x.sum(0, 0, 4), 5);
    }

    private static void promise23ItsFleetIsSold(Checks c) {
        c.says("it is, its FLEET is SOLD.");
        Script s = port(0).load(0, 0, 5).add(x -> x.fleet()).add(x -> x.ship(1, 9)).load(1, 0, 3);
        StaplePort x = s.add(y -> y.sail(0)).add(y -> y.sail(1)).add(y -> y.sell(0, 0)).port();
        c.due("sink of a SOLD one", x.sink(0), -1);
        c.due("LOST", x.shipOf(0, 3), 0);
        c.due("LOST of the lot", x.lot(0, 13), 0);
        c.due("sink of another FLEET", x.sink(1), 0);
        c.due("LOST of the lot", x.lot(0, 13), 3);
    }

    private static void promise23HowManyBonds(Checks c) {
        c.says("the BONDS of all COCKETS of which sacks are in it end");
        Script s = new Script().merchants(1).adopt("duty sort 0 is 1; lost ends;");
        s.bring(new int[][] {{0, 0, 9}, {0, 0, 9}, {0, 1, 9}, {0, 0, 9}, {0, 0, 9}}).customUpTo(4);
        s.add(x -> x.fleet()).times(3, i -> x -> x.ship(0, 50));
        // Lot 0 lies twice in SHIP 0 and in SHIP 1, lot 1 is paid, lot 2 has no BOND, lot 4 is ashore.
        s.load(0, 0, 1).load(0, 0, 2).load(1, 0, 3).load(0, 1, 1).load(0, 2, 1).load(1, 3, 1);
        StaplePort x = s.add(y -> y.pay(1, 0, 9)).add(y -> y.pay(0, 0, 8)).add(y -> y.sail(0)).port();
        c.due("sink of an empty one", x.sink(2), 0);
        c.due("sink(0)", x.sink(0), 1);
        bonds(c, x, 3, 2, 0, 1, 1);
        c.due("sink(1)", x.sink(1), 1);
        bonds(c, x, 3, 2, 0, 3, 1);
        c.due("LOST of lot 0", x.lot(0, 13), 6);
        c.due("what was paid on it", x.lot(0, 10), 8);
    }

    private static void bonds(Checks c, StaplePort x, int... due) {
        for (int lot = 0; lot < due.length; lot++) {
            c.due("BOND of lot " + lot, x.lot(lot, 8), due[lot]);
        }
    }

    private static void promise23TheMostBonds(Checks c) {
        c.says("the BONDS of all COCKETS of which sacks are in it end");
        Script s = new Script().merchants(1).adopt("duty is 1; lost ends;").times(150, i -> x -> x.bring(0, 0, 0, 1));
        s.customUpTo(149).add(x -> x.fleet()).add(x -> x.ship(0, 150));
        for (int lot = 0; lot < 150; lot++) {
            s.load(0, lot, 1);
        }
        StaplePort x = s.add(y -> y.sail(0)).port();
        c.due("open", x.count(8), 150);
        c.due("sink(0)", x.sink(0), 150);
        c.due("open", x.count(8), 0);
    }

    private static void promise23IfTheStatuteSaysSo(Checks c) {
        c.says("if the STATUTE in force TODAY says that LOST ends");
        Script s = new Script().merchants(1).adopt("duty is 1; lost ends;").times(4, i -> x -> x.bring(0, 0, 0, 9));
        s.customUpTo(3).add(x -> x.fleet()).times(4, i -> x -> x.ship(0, 9));
        for (int i = 0; i < 4; i++) {
            s.load(i, i, 9);
        }
        StaplePort x = s.add(y -> y.sail(0)).day(1).adopt("lost stands;").port();
        c.due("by one that says stands", x.sink(0), 0);
        c.due("LOST none the less", x.lot(0, 13), 9);
        Checks.adoptText(x, "duty is 5;");
        c.due("by one that says nothing", x.sink(1), 0);
        x.undo(1);
        x.undo(2);
        c.due("by one that says ends", x.sink(2), 1);
        x.undo(0);
        c.due("by none", x.sink(3), 0);
        bonds(c, x, 1, 1, 3, 1);
    }

    private static void promise26NoneSuch(Checks c) {
        c.says("NONE where there is none such.");
        StaplePort x = port(0).load(0, 0, 7).port();
        int[] due = {0, 50, 7, 0, 0};
        c.range("shipOf(0, what)", 0, 4, what -> x.shipOf(0, what), what -> due[what], -1);
        c.due("shipOf(0, 2)", x.shipOf(0, 2), 7);
        for (int what = 0; what <= 4; what++) {
            c.due("shipOf(0, " + what + ") of none", new StaplePort().shipOf(0, what), -1);
            for (int ship : new int[] {-1, 1, Integer.MIN_VALUE, Integer.MAX_VALUE}) {
                c.due("shipOf(" + ship + ", " + what + ")", x.shipOf(ship, what), -1);
            }
        }
    }

    private static void promise26TheLeastAndTheMost(Checks c) {
        c.says("Of a SHIP: 0 FLEET, 1 ROOM, 2 sacks, 3 LOST (1), 4 whether it sailed (1).");
        Script s = new Script().merchants(1).bring(new int[] {0, 0, 500}).customUpTo(0).times(20, i -> x -> x.fleet());
        s.add(x -> x.ship(0, 1)).times(38, i -> x -> x.ship(1, 9)).add(x -> x.ship(19, 500)).load(39, 0, 500);
        StaplePort x = s.add(y -> y.sail(19)).port();
        shipIs(c, x, 0, 0, 1, 0, 0, 0);
        shipIs(c, x, 38, 1, 9, 0, 0, 0);
        shipIs(c, x, 39, 19, 500, 500, 0, 1);
        x.sink(39);
        shipIs(c, x, 39, 19, 500, 500, 1, 1);
        shipIs(c, x, 0, 0, 1, 0, 0, 0);
    }

    private static void shipIs(Checks c, StaplePort x, int ship, int... due) {
        for (int what = 0; what < due.length; what++) {
            c.due("shipOf(" + ship + ", " + what + ")", x.shipOf(ship, what), due[what]);
        }
    }

    private FleetEdgeTest() {
    }
}
