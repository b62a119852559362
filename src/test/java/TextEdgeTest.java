/** What a STATUTE's text may be, at its edges, a test for each sentence of the Terms; promises 6 and 7. */
public final class TextEdgeTest {
    private static final int SOUND = -1;

    public static void main(String[] args) {
        Checks c = new Checks("TextEdgeTest");
        theEmptyText(c);
        eachStatement(c);
        numbersOfOneToThreeDigits(c);
        tokensAsLongAsTheyGo(c);
        blanks(c);
        bytesThatBeginNone(c);
        sixteenStatements(c);
        threeConds(c);
        moreMustCome(c);
        theFirstTokenWithWhichNoneGoesOn(c);
        longTexts(c);
        c.end();
    }

    /** The text, read by a new port, has its FAULT at this place. */
    private static void reads(Checks c, String text, int place) {
        StaplePort x = new StaplePort();
        int due = place == SOUND ? 0 : -1;
        c.due("adopt '" + text + "'", Checks.adoptText(x, text), due);
        c.due("fault() of '" + text + "'", x.fault(), place);
        c.due("STATUTES behind '" + text + "'", x.count(2), due + 1);
        c.due("bytes behind '" + text + "'", x.count(7), 0);
    }

    private static void theEmptyText(Checks c) {
        c.says("A STATUTE is a text");
        reads(c, "", SOUND);
        reads(c, " ", SOUND);
        reads(c, "\n", SOUND);
        reads(c, " ".repeat(600), SOUND);
        StaplePort x = Checks.portWithMerchants(1);
        x.adopt(0);
        c.due("force(0)", x.force(0), 0);
        c.due("bring by a STATUTE that says nothing", x.bring(0, 0, 0, 1), 0);
        c.due("custom by it", x.custom(0), 0);
    }

    private static void eachStatement(Checks c) {
        c.says("\"duty\" {COND} \"is\" NUMBER \";\" | \"forbid\" {COND} \";\" | \"term\" NUMBER \";\" | "
                + "\"lost\" (\"ends\" | \"stands\") \";\"");
        reads(c, "duty is 0;", SOUND);
        reads(c, "duty sort 0 is 0;", SOUND);
        reads(c, "forbid;", SOUND);
        reads(c, "forbid man 0;", SOUND);
        reads(c, "term 0;", SOUND);
        reads(c, "lost ends;", SOUND);
        reads(c, "lost stands;", SOUND);
        reads(c, "duty is 0;forbid;term 0;lost ends;lost stands;", SOUND);
        reads(c, "is 0;", 0);
        reads(c, "ends;", 0);
        reads(c, "stands;", 0);
        reads(c, "sort 0;", 0);
        reads(c, "man 0;", 0);
        reads(c, "shire 0;", 0);
        reads(c, ";", 0);
        reads(c, "0;", 0);
        reads(c, "forbid is 0;", 7);
        reads(c, "term is 0;", 5);
        reads(c, "term sort 0;", 5);
        reads(c, "lost 0;", 5);
        reads(c, "lost ends stands;", 10);
    }

    private static void numbersOfOneToThreeDigits(Checks c) {
        c.says("NUMBER: one to three digits.");
        String[] numbers = {"0", "9", "00", "09", "99", "000", "009", "099", "999"};
        for (String number : numbers) {
            StaplePort x = Checks.portWithMerchants(1);
            Checks.adoptText(x, "duty is " + number + ";duty is 1;term " + number + ";");
            x.bring(0, 0, 0, 1);
            int value = Integer.parseInt(number);
            c.due("DUTY of " + number, x.custom(0), value);
            c.due("TERM of " + number, x.lot(0, 9), value == 0 ? -1 : value);
            reads(c, "forbid sort " + number + " man " + number + " shire " + number + ";", SOUND);
        }
        for (String number : new String[] {"", "0000", "0001", "1000", "9999", "10000", "9".repeat(500)}) {
            reads(c, "duty is " + number + ";", 8);
            reads(c, "term " + number + ";", 5);
            reads(c, "forbid sort " + number + ";", 12);
            reads(c, "forbid sort 1 man " + number + ";", 18);
            reads(c, "duty shire " + number + " is 4;", 11 + (number.isEmpty() ? 1 : 0));
        }
    }

    private static void tokensAsLongAsTheyGo(Checks c) {
        c.says("Tokens as long as they go: words of letters a to z, digits, \";\"");
        reads(c, "duty sort1man2shire3is4;term5;lost ends;", SOUND);
        reads(c, "duty is4;term 5;", SOUND);
        reads(c, "dutyis 4;", 0);
        reads(c, "dutysort 1 is 4;", 0);
        reads(c, "lostends;", 0);
        reads(c, "forbidsort 1;", 0);
        reads(c, "termterm 5;", 0);
        reads(c, "duty sort1mann2 is 4;", 10);
        reads(c, "term 1 2;", 7);
        reads(c, "term 12 3;", 8);
        reads(c, "term 12 34;", 8);
        reads(c, "term 1234;", 5);
        reads(c, "duty is 12a;", 10);
        reads(c, "duty is a12;", 8);
        reads(c, ";;", 0);
        reads(c, "term 5;;", 7);
        for (char letter : new char[] {'a', 'z'}) {
            reads(c, "term" + letter + " 5;", 0);
            reads(c, letter + "term 5;", 0);
            reads(c, "term 5" + letter + ";", 6);
        }
        for (char digit : new char[] {'0', '9'}) {
            reads(c, "term" + digit + ";", SOUND);
            reads(c, digit + "term 5;", 0);
            reads(c, "term " + digit + digit + ";", SOUND);
        }
    }

    private static void blanks(Checks c) {
        c.says("between them blanks (bytes 32 and 10)");
        reads(c, "\n \nduty \n sort\n\n1 \nis  2\n;\n\n ", SOUND);
        for (int b = 0; b < 256; b++) {
            boolean blank = b == 32 || b == 10;
            boolean digit = b >= '0' && b <= '9';
            boolean letter = b >= 'a' && b <= 'z';
            char at = (char) b;
            reads(c, "term" + at + "5;", blank || digit ? SOUND : letter ? 0 : 4);
            reads(c, "term 5" + at + ";", blank || digit ? SOUND : b == ';' ? 7 : 6);
            reads(c, at + "term 5;", blank ? SOUND : 0);
            reads(c, "term 5;" + at, blank ? SOUND : 7);
            reads(c, "term 5;  " + at + " ", blank ? SOUND : 9);
        }
    }

    private static void bytesThatBeginNone(Checks c) {
        c.says("the place of the first byte of the first token (or byte that begins none)");
        // Those next to the letters, the digits, ";" and the blanks; capitals; and bytes of 128 and above.
        for (int b : new int[] {0, 9, 11, 13, 31, 33, 47, 58, 60, 65, 90, 96, 123, 127, 128, 160, 138, 187, 225, 255}) {
            char at = (char) b;
            reads(c, String.valueOf(at), 0);
            reads(c, "  " + at, 2);
            reads(c, "duty" + at, 4);
            reads(c, "duty is 4 " + at + ";", 10);
            reads(c, "lost " + at + "ends;", 5);
            reads(c, " ".repeat(599) + at, 599);
        }
    }

    private static void sixteenStatements(Checks c) {
        c.says("At most 16 statements .. the 17th statement, the fourth COND: where it begins.");
        for (String statement : new String[] {"term 5;", "forbid;", "duty is 9;", "lost ends;", "lost stands;"}) {
            String sixteen = statement.repeat(16);
            reads(c, statement.repeat(15), SOUND);
            reads(c, sixteen, SOUND);
            reads(c, sixteen + "\n  ", SOUND);
            reads(c, sixteen + statement, sixteen.length());
            reads(c, sixteen + " \n " + statement, sixteen.length() + 3);
            reads(c, sixteen + "duty", sixteen.length());
            reads(c, sixteen + " duty sort 1000", sixteen.length() + 1);
            reads(c, sixteen + " ;", sixteen.length() + 1);
            reads(c, sixteen + "!", sixteen.length());
            String unended = sixteen.substring(0, sixteen.length() - 1);
            reads(c, unended, unended.length());
            reads(c, unended + " term 5;", unended.length() + 1);
        }
    }

    private static void threeConds(Checks c) {
        c.says("of 3 CONDS each .. the 17th statement, the fourth COND: where it begins.");
        String three = " sort 1 man 2 shire 3";
        reads(c, "duty" + three + " is 4;", SOUND);
        reads(c, "forbid" + three + ";", SOUND);
        reads(c, "forbid sort 1 sort 1 sort 1;", SOUND);
        for (String fourth : new String[] {"sort 1", "man 1", "shire 1", "sort", "man 1000", "shire !"}) {
            reads(c, "duty" + three + " " + fourth + " is 4;", 26);
            reads(c, "duty" + three + "\n\n" + fourth, 27);
            reads(c, "forbid" + three + " " + fourth + ";", 28);
            reads(c, "forbid" + three + fourth + ";", 27);
        }
        reads(c, "forbid sort1man2shire3;".repeat(16), SOUND);
        reads(c, "duty sort1man2shire3is999;".repeat(16), SOUND);
        reads(c, "forbid sort1man2shire3;".repeat(15) + "forbid sort1man2shire3man2;", 15 * 23 + 22);
        reads(c, "forbid" + three + ";duty" + three + " man 2 is 4;", 54);
    }

    private static void moreMustCome(Checks c) {
        c.says("the text's length, if more must come");
        eachBeginning(c, "duty sort 12 is 345;", new int[] {SOUND, 0, 0, 0, 4, 5, 5, 5, 5, 9, 10, 11, 12, 13, 13, 15,
            16, 17, 18, 19, SOUND});
        eachBeginning(c, "forbid man 0;\n", new int[] {SOUND, 0, 0, 0, 0, 0, 6, 7, 7, 7, 10, 11, 12, SOUND, SOUND});
        eachBeginning(c, "lost stands;", new int[] {SOUND, 0, 0, 0, 4, 5, 5, 5, 5, 5, 5, 11, SOUND});
        eachBeginning(c, "lost ends ;", new int[] {SOUND, 0, 0, 0, 4, 5, 5, 5, 5, 9, 10, SOUND});
        eachBeginning(c, " term 7 ;lost", new int[] {SOUND, SOUND, 1, 1, 1, 5, 6, 7, 8, SOUND, 9, 9, 9, 13});
    }

    /** The first bytes of a text, from none on, with the place of the FAULT of each. */
    private static void eachBeginning(Checks c, String text, int[] places) {
        for (int n = 0; n < places.length; n++) {
            reads(c, text.substring(0, n), places[n]);
            // What stands on the tape behind the first n bytes is not read.
            StaplePort x = new StaplePort();
            Checks.feedText(x, text);
            c.due("adopt(" + n + ") of '" + text + "'", x.adopt(n), places[n] == SOUND ? 0 : -1);
            c.due("fault() of " + n + " of '" + text + "'", x.fault(), places[n]);
        }
    }

    private static void theFirstTokenWithWhichNoneGoesOn(Checks c) {
        c.says("the first token (or byte that begins none) with which no such text goes on");
        reads(c, "duty man 1 man 1 4 is 5;", 17);
        reads(c, "duty is 4 is 5;", 10);
        reads(c, "duty is 4 sort 5;", 10);
        reads(c, "duty is sort 5;", 8);
        reads(c, "duty duty is 4;", 5);
        reads(c, "duty;", 4);
        reads(c, "duty 4;", 5);
        reads(c, "forbid 4;", 7);
        reads(c, "forbid sort 4 5;", 14);
        reads(c, "forbid forbid;", 7);
        reads(c, "forbid sort man 4;", 12);
        reads(c, "lost end;", 5);
        reads(c, "lost endss;", 5);
        reads(c, "term 4 5; !", 7);
        reads(c, "! term 4 5;", 0);
        reads(c, "term 4; lots; !", 8);
    }

    private static void longTexts(Checks c) {
        c.says("there would be more than 600");
        reads(c, " ".repeat(593) + "term 5;", SOUND);
        reads(c, " ".repeat(594) + "term 5", 600);
        reads(c, " ".repeat(596) + "term", 600);
        reads(c, " ".repeat(597) + "ter", 597);
        reads(c, "a".repeat(600), 0);
        reads(c, "term " + "1".repeat(595), 5);
        reads(c, "term" + "\n".repeat(594) + "1;", SOUND);
        reads(c, ";".repeat(600), 0);
    }

    private TextEdgeTest() {
    }
}
