/** Promises 8 and 9, and what a STATUTE says, at their edges, a test for each sentence. */
public final class LawEdgeTest {
    public static void main(String[] args) {
        Checks c = new Checks("LawEdgeTest");
        promise8NoneSuch(c);
        promise8ItIs(c);
        promise9OnThatDayOrAhead(c);
        promise9TheLatest(c);
        promise9NotUndone(c);
        promise9Days(c);
        condsHold(c);
        allCondsHold(c);
        theFirstDuty(c);
        zeroWithoutADuty(c);
        someForbid(c);
        theLastTerm(c);
        theLastLost(c);
        c.end();
    }

    private static void promise8NoneSuch(Checks c) {
        c.says("A STATUTE is UNDONE: true; false: none such");
        c.due("undo(0) of none", new StaplePort().undo(0), false);
        Script three = new Script().times(3, i -> x -> x.adopt(0));
        c.range("undo of one of three", 0, 2, i -> Checks.bit(three.port().undo(i)), i -> 1, 0);
        Script twenty = new Script().times(20, i -> x -> x.adopt(0));
        c.range("undo of one of 20", 0, 19, i -> Checks.bit(twenty.port().undo(i)), i -> 1, 0);
        StaplePort x = new StaplePort();
        Checks.adoptText(x, "term");
        c.due("undo(0) behind a FAULT", x.undo(0), false);
    }

    private static void promise8ItIs(Checks c) {
        c.says("false: none such, it is.");
        StaplePort x = new StaplePort();
        x.adopt(0);
        x.adopt(0);
        c.due("undo(0)", x.undo(0), true);
        c.due("undo(0) again", x.undo(0), false);
        x.day(9);
        c.due("undo(0) on a later day", x.undo(0), false);
        c.due("undo(1)", x.undo(1), true);
        c.due("undo(0) once more", x.undo(0), false);
        c.due("undo(1) again", x.undo(1), false);
        c.due("STATUTES", x.count(2), 2);
    }

    private static void promise9OnThatDayOrAhead(Checks c) {
        c.says("the latest one ADOPTED on that day or ahead");
        StaplePort x = new StaplePort();
        x.adopt(0);
        x.day(1);
        c.due("force(0)", x.force(0), 0);
        c.due("force(1)", x.force(1), 0);
        x.day(100);
        x.adopt(0);
        c.due("force(99)", x.force(99), 0);
        c.due("force(100)", x.force(100), 1);
        c.due("force(101)", x.force(101), 1);
        x.day(3000);
        x.adopt(0);
        c.due("force(2999)", x.force(2999), 1);
        c.due("force(3000)", x.force(3000), 2);

        StaplePort y = new StaplePort();
        y.day(3000);
        y.adopt(0);
        c.due("force(2999), none", y.force(2999), -1);
        c.due("force(0), none", y.force(0), -1);
        c.due("force(3000)", y.force(3000), 0);
    }

    private static void promise9TheLatest(Checks c) {
        c.says("the latest one ADOPTED");
        StaplePort x = new StaplePort();
        for (int i = 0; i < 20; i++) {
            c.due("adopt", x.adopt(0), i);
            c.due("force(0)", x.force(0), i);
        }
    }

    private static void promise9NotUndone(Checks c) {
        c.says("that isn't UNDONE");
        StaplePort x = new StaplePort();
        for (int i = 0; i < 20; i++) {
            if (i % 5 == 0) {
                x.day(10 * (i + 1));
            }
            x.adopt(0);
        }
        x.undo(17);
        c.due("force(160), one below the latest UNDONE", x.force(160), 19);
        for (int i = 19; i >= 0; i--) {
            x.undo(i);
            c.due("force(160), " + i + " UNDONE", x.force(160), i == 18 ? 16 : i - 1);
            c.due("force(60), " + i + " UNDONE", x.force(60), Math.min(9, i - 1));
        }
        c.due("force(160), all UNDONE", x.force(160), -1);
        c.due("force(0)", x.force(0), -1);
    }

    private static void promise9Days(Checks c) {
        c.says("The STATUTE in force on a day (0 to 3,000) as known TODAY. NONE: none, no such day.");
        Script one = new Script().add(x -> x.adopt(0));
        c.range("force", 0, 3000, day -> one.port().force(day), day -> 0, -1);
        c.range("force without a STATUTE", 0, 3000, day -> new StaplePort().force(day), day -> -1, -1);
        StaplePort x = one.port();
        c.due("force(3000), not yet TODAY", x.force(3000), 0);
        x.adopt(0);
        c.due("force(3000), known later", x.force(3000), 1);
        x.undo(1);
        c.due("force(3000), known later still", x.force(3000), 0);
    }

    private static void condsHold(Checks c) {
        c.says("COND: (\"sort\" | \"man\" | \"shire\") NUMBER: it holds of what has that number.");
        String[] marks = {"sort", "man", "shire"};
        int[] most = {3, 2, 7};
        for (int mark = 0; mark < 3; mark++) {
            for (int number = 0; number <= most[mark] + 1; number++) {
                StaplePort x = Checks.portWithMerchants(3);
                Checks.adoptText(x, "duty " + marks[mark] + " " + number + " is 1;");
                for (int has = 0; has <= most[mark]; has++) {
                    int lot = x.bring(mark == 1 ? has : 0, mark == 2 ? has : 0, mark == 0 ? has : 0, 1);
                    c.due("DUTY by " + marks[mark] + " " + number + " of " + has, x.custom(lot),
                            has == number ? 1 : 0);
                }
            }
        }
    }

    private static void allCondsHold(Checks c) {
        c.says("all whose CONDS hold");
        String[] conds = {"", "sort 1", "sort 1 sort 1", "sort 1 sort 1 sort 1", "sort 1 sort 2", "sort 2 sort 1",
            "sort 1 sort 2 sort 1", "sort 1 sort 2 sort 2", "sort 2 sort 1 sort 1", "sort 1 sort 1 sort 2",
            "sort 1 man 1", "man 1 sort 1", "man 1 man 1 sort 1", "man 0 sort 1 man 1", "shire 1 man 1 sort 1",
            "shire 2 man 1 sort 1", "shire 1 man 1 sort 2", "shire 1 man 0 sort 1", "shire 1 shire 2"};
        // The lots: merchant and shire 1 and SORT 1, the same and SORT 2, merchant 0 and SORT 1.
        int[][] due = {{1, 1, 1}, {1, 0, 1}, {1, 0, 1}, {1, 0, 1}, {0, 0, 0}, {0, 0, 0}, {0, 0, 0}, {0, 0, 0},
            {0, 0, 0}, {0, 0, 0}, {1, 0, 0}, {1, 0, 0}, {1, 0, 0}, {0, 0, 0}, {1, 0, 0}, {0, 0, 0}, {0, 1, 0},
            {0, 0, 1}, {0, 0, 0}};
        for (int i = 0; i < conds.length; i++) {
            StaplePort x = Checks.portWithMerchants(2);
            Checks.adoptText(x, "duty " + conds[i] + " is 1;");
            x.bring(1, 1, 1, 1);
            x.bring(1, 1, 2, 1);
            x.bring(0, 1, 1, 1);
            Checks.adoptText(x, "forbid " + conds[i] + ";");
            for (int lot = 0; lot < 3; lot++) {
                int again = x.bring(x.lot(lot, 0), x.lot(lot, 1), x.lot(lot, 2), 1);
                c.due("lot " + lot + " FORBIDDEN by '" + conds[i] + "'", again == -3, due[i][lot] == 1);
            }
            x.undo(1);
            for (int lot = 0; lot < 3; lot++) {
                c.due("DUTY of lot " + lot + " by '" + conds[i] + "'", x.custom(lot), due[i][lot]);
            }
        }
    }

    private static void theFirstDuty(Checks c) {
        c.says("sacks times the NUMBER of the first \"duty\" all whose CONDS hold");
        StaplePort x = Checks.portWithMerchants(3);
        Checks.adoptText(x, "duty sort 3 man 2 shire 7 is 999;" + "duty sort 1 sort 2 is 998;".repeat(13)
                + "duty sort 3 man 2 is 7; duty is 5;");
        c.due("the first one, most sacks", x.custom(x.bring(2, 7, 3, 500)), 499500);
        c.due("the first one, one sack", x.custom(x.bring(2, 7, 3, 1)), 999);
        c.due("the 15th one", x.custom(x.bring(2, 6, 3, 10)), 70);
        c.due("the 16th one", x.custom(x.bring(1, 7, 3, 10)), 50);
        c.due("two CONDS that never hold together", x.custom(x.bring(0, 0, 1, 10)), 50);
        Checks.adoptText(x, "duty sort 1 is 0; duty is 9;");
        c.due("the first one is 0", x.custom(x.bring(0, 0, 1, 10)), 0);
        c.due("its BOND", x.lot(5, 8), 0);
    }

    private static void zeroWithoutADuty(Checks c) {
        c.says("0 without one");
        StaplePort x = Checks.portWithMerchants(1);
        c.due("DUTY without a STATUTE", x.custom(x.bring(0, 0, 0, 500)), 0);
        x.adopt(0);
        c.due("DUTY without a \"duty\"", x.custom(x.bring(0, 0, 0, 500)), 0);
        Checks.adoptText(x, "duty sort 4 is 999;".repeat(16));
        c.due("DUTY where none holds", x.custom(x.bring(0, 0, 0, 500)), 0);
    }

    private static void someForbid(Checks c) {
        c.says("FORBIDDEN: all CONDS of some \"forbid\" hold.");
        StaplePort x = Checks.portWithMerchants(3);
        Checks.adoptText(x, "forbid sort 3 shire 8;".repeat(15) + "forbid sort 3 man 2 shire 7;");
        c.due("all CONDS of the 16th", x.bring(2, 7, 3, 1), -3);
        c.due("not the sort", x.bring(2, 7, 2, 1), 0);
        c.due("not the man", x.bring(1, 7, 3, 1), 1);
        c.due("not the shire", x.bring(2, 6, 3, 1), 2);
        Checks.adoptText(x, "forbid;");
        c.due("no CONDS", x.bring(0, 0, 0, 1), -3);
        Checks.adoptText(x, "forbid sort 0 sort 1; forbid man 3;");
        c.due("none that can hold", x.bring(0, 0, 0, 1), 3);
        x.undo(2);
        c.due("the earlier one again", x.bring(0, 0, 0, 1), -3);
    }

    private static void theLastTerm(Checks c) {
        c.says("TERM: the last \"term\"; 0.");
        c.due("none", dueBy("duty is 1;"), 40);
        c.due("one", dueBy("duty is 1; term 999;"), 1039);
        c.due("the last of 15", dueBy("duty is 1;" + "term 999;".repeat(14) + "term 2;"), 42);
        c.due("the last is 0", dueBy("duty is 1;" + "term 999;".repeat(14) + "term 0;"), 40);
    }

    private static int dueBy(String statute) {
        StaplePort x = Checks.portWithMerchants(1);
        x.day(40);
        Checks.adoptText(x, statute);
        x.custom(x.bring(0, 0, 0, 1));
        return x.lot(0, 9);
    }

    private static void theLastLost(Checks c) {
        c.says("LOST: the last \"lost\"; stands.");
        c.due("none", endedBy("duty is 1;"), 0);
        c.due("ends", endedBy("duty is 1; lost ends;"), 1);
        c.due("the last of 15 ends", endedBy("duty is 1;" + "lost stands;".repeat(14) + "lost ends;"), 1);
        c.due("the last of 15 stands", endedBy("duty is 1;" + "lost ends;".repeat(14) + "lost stands;"), 0);
    }

    private static int endedBy(String statute) {
        Script s = new Script().merchants(1).adopt(statute).bring(new int[] {0, 0, 1}).customUpTo(0);
        s.add(x -> x.fleet()).add(x -> x.ship(0, 1)).load(0, 0, 1).add(x -> x.sail(0));
        return s.port().sink(0);
    }

    private LawEdgeTest() {
    }
}
