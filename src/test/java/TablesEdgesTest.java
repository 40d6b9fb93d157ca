/** Each sentence of the Terms, of 1 TABLES and of promises 1 to 8 that names a boundary case. */
public final class TablesEdgesTest {
    /** Every call that takes a TABLE; its other numbers are wrong, too, where that is no reason for UNKNOWN. */
    private static final String[] OF_TABLES = {"seat T 0 true", "kind T 0 9", "card T 0", "match T 0", "deal T 1 99",
        "give T 0 0", "bid T 0 0 9", "doubled T 0", "lay T 0 0", "revoke T 0 0", "allowed T 0 0", "turn T", "trick T 0",
        "hand T 0 0", "left T 4", "winner T", "won T 0 9", "revokes T 0 9", "sum T 0", "tie T", "best T 0", "line T 0 0",
        "check T 0", "claim T 0 9", "undo T", "replay T", "digest T", "status T 99"};
    private static final String[] OF_SEATS = {"seat 0 S true", "give 0 S 0", "bid 0 S 0 9", "doubled 0 S", "lay 0 S 0",
        "revoke 0 S 0", "allowed 0 S 0", "hand 0 S 0", "revokes 0 S 9", "sum 0 S"};
    private static final String[] OF_SIDES = {"won 0 E 9", "best 0 E", "line 0 E 0", "check 0 E", "claim 0 E 9"};
    private static final String[] OF_CARDS = {"kind 0 C 9", "card 0 C", "give 0 0 C"};
    private static final String GAME = "game 0 0 0 0 = 1;";

    public static void main(String[] args) {
        calls();
        numbers();
        packs();
        cards();
        kinds();
        colours();
        places();
        hands();
        findingsInOrder();
        findingsKept();
        games();
        tables();
        seats();
        kindsOfCards();
        matches();
        Script.end();
    }

    private static void calls() {
        Script.run("at most 512 calls: the last one answers as ever", GAME + "table 0 8 0 = 1; deal 0 1 0 = 1;"
            + "lay 0 0 0 = -13;".repeat(506) + "count 0 = 506; finding 0 4 = 447; finding 59 4 = 506");
        Script.run("at most 512 calls: bodies", "game 0 3 0 0 = 1; game 1 4 0 0 = 1; table 0 8 1 = 1; deal 0 1 -1 = 1;"
            + "allowed 0 0 0 = 0;".repeat(506) + "trace 59 = 21; forget = 1519");
        StringBuilder deals = new StringBuilder(GAME + "table 0 4 0 = 1; table 1 4 0 = 1; table 2 4 0 = 1;");
        for (int n = 0; n < 506; n++) {
            deals.append("deal " + n % 3 + " 1 0 = " + (n + 1) + ";");
        }
        Script.run("at most 512 calls: numbers of deals", deals + "count 2 = 506; status 0 2 = 169");
    }

    private static String each(String[] calls, String letter, String answer, int... numbers) {
        StringBuilder text = new StringBuilder();
        for (String call : calls) {
            for (int number : numbers) {
                text.append(call.replaceAll("\\b" + letter + "\\b", "" + number) + " = " + answer + ";");
            }
        }
        return text.toString();
    }

    private static void numbers() {
        String two = GAME + "table 0 8 0 = 1; table 3 8 0 = 1;";
        Script.run("TABLES 0 .. 3 are there or not (at first)", two
            + each(OF_TABLES, "T", "-2", -1, 1, 2, 4, Integer.MIN_VALUE, Integer.MAX_VALUE) + "count 3 = 2; turn 0 = -1;"
            + "turn 3 = -1");
        Script.run("TABLES 0 .. 3: table()", GAME + """
            table -1 8 0 = -2; table 4 8 0 = -2; table 2147483647 8 0 = -2; table -2147483648 8 0 = -2; count 3 = 0
            table 0 8 0 = 1; table 1 8 0 = 1; table 2 8 0 = 1; table 3 8 0 = 1; count 3 = 4; turn 3 = -1
            """);
        Script.run("SEATS 0 .. 3", two + each(OF_SEATS, "S", "-2", -1, 4, Integer.MIN_VALUE, Integer.MAX_VALUE) + """
            deal 0 1 0 = 1; give 0 0 0 = 1; give 0 3 1 = 1; sum 0 0 = 0; sum 0 3 = 0; hand 0 3 0 = 1; lay 0 3 0 = -14
            """ + each(OF_SEATS, "S", "-2", -1, 4, Integer.MIN_VALUE, Integer.MAX_VALUE));
        Script.run("left(): SEATS 0 .. 3, THE REST (s = 4)", two + """
            left 0 -1 = -2; left 0 0 = -1; left 0 3 = -1; left 0 4 = 8; left 0 5 = -2; left 0 2147483647 = -2
            left 0 -2147483648 = -2
            """);
        Script.run("SIDES 0 and 1", two + "deal 0 1 0 = 1;"
            + each(OF_SIDES, "E", "-2", -1, 2, Integer.MIN_VALUE, Integer.MAX_VALUE) + """
            best 0 0 = 0; best 0 1 = 0; won 0 0 0 = 0; won 0 1 0 = 0; status 0 0 = 1
            """);
        StringBuilder sides = new StringBuilder(two);
        for (int s = 0; s < 4; s++) {
            sides.append("deal 0 1 0 = " + (s + 1) + "; give 0 " + s + " 0 = 1; lay 0 " + s + " 0 = 0; winner 0 = " + s
                + ";");
            sides.append("won 0 " + s % 2 + " 0 = 1; won 0 " + (1 - s % 2) + " 0 = 0; card 0 0 = " + (6 + s % 2) + ";");
        }
        Script.run("SIDE 0 has SEATS 0 and 2, SIDE 1 the others", sides.toString());
    }

    private static void packs() {
        StringBuilder text = new StringBuilder(GAME);
        for (int p = -8; p <= 68; p++) {
            boolean isPack = p >= 4 && p <= 60 && p % 4 == 0;
            text.append("table 0 " + p + " 0 = " + (isPack ? 1 : -3) + ";");
            text.append(isPack ? "left 0 4 = " + p + ";" : "");
        }
        Script.run("a PACK of p CARDS (4 to 60, a multiple of 4)", text + "table 0 2147483644 0 = -3;"
            + "table 0 -2147483648 0 = -3");
        for (int p : new int[] {4, 60}) {
            Script.run("CARDS, 0 to p - 1, of " + p, GAME + "table 0 " + p + " 0 = 1; card 0 0 = 0; deal 0 1 0 = 1;"
                + each(OF_CARDS, "C", "-2", -1, p, Integer.MIN_VALUE, Integer.MAX_VALUE)
                + "card 0 LAST = 0; kind 0 LAST 0 = 0; kind 0 0 1 = 0; give 0 0 LAST = 1; give 0 1 0 = 1".replace("LAST",
                "" + (p - 1)));
        }
    }

    private static void cards() {
        Script.run("CARD c is of SUIT c % 4 and RANK c / 4: the last ones", GAME + """
            table 0 60 0 = 1; deal 0 1 0 = 1; give 0 0 55 = 1; give 0 1 58 = 1; give 0 1 59 = 2; give 0 2 3 = 1; give 0 3 57 = 1
            lay 0 0 0 = 55; allowed 0 1 0 = 1; lay 0 1 1 = 59; lay 0 2 0 = 3; lay 0 3 0 = 57; winner 0 = 1
            """);
        Script.run("CARD c is of SUIT c % 4 and RANK c / 4: the first ones", GAME + """
            table 0 8 0 = 1; deal 0 1 0 = 1; give 0 0 0 = 1; give 0 1 1 = 1; give 0 1 4 = 2; give 0 2 5 = 1
            lay 0 0 0 = 0; allowed 0 1 0 = 1; lay 0 1 1 = 4; lay 0 2 0 = 5; winner 0 = 1
            """);
    }

    private static void kinds() {
        Script.run("KINDS 0 to 3, at each TABLE as told (PLAIN at first)", GAME + """
            table 0 4 0 = 1; table 1 4 0 = 1; kind 0 3 -1 = -3; kind 0 3 4 = -3; kind 0 3 2147483647 = -3
            kind 0 3 -2147483648 = -3
            kind 0 3 3 = 0; kind 1 3 0 = 0; kind 0 3 0 = 3; kind 0 3 0 = 0
            """);
        Script.run("KINDS: PLAIN again, a CARD is of its SUIT again", GAME + """
            table 0 16 0 = 1; kind 0 7 1 = 0; kind 0 7 0 = 1; kind 0 5 2 = 0; kind 0 5 0 = 2; deal 0 1 0 = 1; give 0 0 3 = 1
            give 0 0 1 = 2; give 0 1 7 = 1; give 0 1 5 = 2; give 0 1 6 = 3
            lay 0 0 0 = 3; allowed 0 1 2 = 1; allowed 0 1 1 = 1; lay 0 1 0 = 7; winner 0 = 1; lay 0 1 0 = 5; lay 0 0 0 = 1
            winner 0 = 1
            """);
        for (int kind = 0; kind < 4; kind++) {
            Script.run("all but BLANKS are PLAYABLE: " + kind, GAME + "table 0 4 0 = 1; kind 0 2 " + kind + " = 0;"
                + "deal 0 1 0 = 1; give 0 1 2 = 1;"
                + (kind < 3 ? "turn 0 = 1; allowed 0 1 0 = 0; lay 0 1 0 = 2; status 0 0 = 2"
                    : "turn 0 = -1; allowed 0 1 0 = -15; lay 0 1 0 = -14; status 0 0 = 1"));
        }
    }

    private static void colours() {
        Script.run("COLOUR: of a TRUMP 4, not its SUIT", GAME + """
            table 0 16 0 = 1; kind 0 4 1 = 0; deal 0 1 0 = 1; give 0 0 0 = 1; give 0 1 4 = 1; give 0 1 8 = 2; give 0 2 4 = -4
            lay 0 0 0 = 0; allowed 0 1 0 = 1; allowed 0 1 1 = 0
            """);
        Script.run("COLOUR: of a JOKER 5, not its SUIT", GAME + """
            table 0 16 0 = 1; kind 0 4 2 = 0; deal 0 1 0 = 1; give 0 0 0 = 1; give 0 1 4 = 1; give 0 1 9 = 2
            lay 0 0 0 = 0; allowed 0 1 0 = 0; allowed 0 1 1 = 0; lay 0 1 1 = 9; winner 0 = 0
            """);
        Script.run("COLOUR: of a BLANK 6, not its SUIT", GAME + """
            table 0 16 0 = 1; kind 0 4 3 = 0; deal 0 1 0 = 1; give 0 0 0 = 1; give 0 1 4 = 1; give 0 1 9 = 2
            lay 0 0 0 = 0; allowed 0 1 0 = -15; allowed 0 1 1 = 0; lay 0 1 1 = 9; status 0 0 = 2; hand 0 1 0 = 4
            """);
    }

    /** By card where it is, after each step: 0 the rest, 1 + s a hand, 5 the trick, 6 + side. */
    private static void places() {
        String[][] steps = {{"deal 0 1 0 = 1", "00000000"},
            {"give 0 0 0 = 1; give 0 0 5 = 2; give 0 1 4 = 1; give 0 1 1 = 2; give 0 2 7 = 1", "12002103"},
            {"lay 0 0 0 = 0", "52002103"}, {"revoke 0 1 1 = 1", "66002103"}, {"lay 0 0 0 = 5", "66002503"},
            {"lay 0 1 0 = 4", "66006603"}, {"seat 0 2 false = 1", "66006600"}};
        StringBuilder text = new StringBuilder(GAME + "table 0 8 0 = 1; kind 0 7 3 = 0; seat 0 3 false = 1;");
        for (String[] step : steps) {
            text.append(step[0] + ";");
            for (int c = 0; c < 8; c++) {
                text.append("card 0 " + c + " = " + step[1].charAt(c) + ";");
            }
            text.append("left 0 4 = " + countOf(step[1], '0') + "; won 0 0 2 = " + countOf(step[1], '6') + ";");
            text.append("won 0 1 2 = " + countOf(step[1], '7') + ";");
        }
        Script.run("a CARD of a TABLE is in just one place", text.toString());
    }

    private static long countOf(String places, char place) {
        return places.chars().filter(each -> each == place).count();
    }

    private static void hands() {
        Script.run("at first all are in THE REST, HANDS are NOT DEALT", GAME + """
            table 0 8 0 = 1; left 0 4 = 8; left 0 0 = -1; left 0 1 = -1; left 0 2 = -1; left 0 3 = -1
            hand 0 0 0 = -12; hand 0 3 -1 = -12; hand 0 3 99 = -12
            """);
        Script.run("a HAND of no places is not one that is NOT DEALT", GAME + """
            table 0 8 0 = 1; seat 0 1 false = 1; deal 0 1 0 = 1; left 0 0 = 0; hand 0 0 0 = -1; hand 0 0 -1 = -1
            left 0 1 = -1; hand 0 1 0 = -12; lay 0 0 0 = -13; lay 0 1 0 = -11
            """);
        Script.run("a row of as many places as CARDS", GAME + """
            table 0 8 0 = 1; deal 0 1 0 = 1; give 0 0 3 = 1; give 0 0 6 = 2; hand 0 0 -1 = -1; hand 0 0 0 = 3; hand 0 0 1 = 6
            hand 0 0 2 = -1; allowed 0 0 -1 = -13; allowed 0 0 0 = 0; allowed 0 0 1 = 0; allowed 0 0 2 = -13
            lay 0 0 2 = -13; lay 0 0 -1 = -13; lay 0 0 1 = 6; hand 0 0 0 = 3; hand 0 0 1 = -1; lay 0 0 1 = -13; lay 0 0 0 = 3
            """);
        Script.run("its HAND has no such place, however far away", GAME + """
            table 0 8 0 = 1; deal 0 1 0 = 1; give 0 0 3 = 1; lay 0 0 2147483647 = -13; lay 0 0 -2147483648 = -13
            revoke 0 0 2147483647 = -13; revoke 0 0 -2147483648 = -13; allowed 0 0 2147483647 = -13
            allowed 0 0 -2147483648 = -13; hand 0 0 2147483647 = -1; hand 0 0 -2147483648 = -1; count 0 = 4; count 1 = 4
            """);
        Script.run("a SEAT can LAY, if its HAND has a PLAYABLE CARD", GAME + """
            table 0 16 0 = 1; kind 0 0 3 = 0; kind 0 1 3 = 0; kind 0 2 3 = 0; deal 0 1 0 = 1
            give 0 0 0 = 1; turn 0 = -1; give 0 0 1 = 2; turn 0 = -1; give 0 0 2 = 3; turn 0 = -1; give 0 0 4 = 4; turn 0 = 0
            """);
    }

    private static void findingsInOrder() {
        String hands = GAME + """
            table 2 16 0 = 1; seat 2 3 false = 1; kind 2 3 3 = 0; kind 2 7 3 = 0; deal 2 1 0 = 1
            give 2 0 0 = 1; give 2 0 3 = 2; give 2 1 1 = 1; give 2 1 4 = 2; give 2 1 7 = 3
            """;
        Script.run("1 NOBODY, ahead of all others", hands + """
            lay 2 3 0 = -11; lay 2 3 99 = -11; revoke 2 3 -1 = -11; allowed 2 3 0 = -11
            finding 0 0 = 1; finding 0 1 = 2; finding 0 2 = 3; finding 0 3 = 0; finding 0 4 = 1; count 1 = 3
            """);
        Script.run("3 NO CARD, ahead of TURN", hands + """
            lay 2 1 3 = -13; lay 2 1 -1 = -13; lay 2 2 0 = -13; lay 2 0 2 = -13; revoke 2 0 2 = -13; allowed 2 2 0 = -13
            finding 4 0 = 3; finding 4 1 = 2; finding 4 2 = 0; finding 4 3 = 0; finding 4 4 = 5; count 1 = 5
            """);
        Script.run("4 TURN: another SEAT's; ahead of NOT SO and BARRED", hands + """
            lay 2 1 2 = -14; revoke 2 1 2 = -14; allowed 2 1 2 = -15; lay 2 0 0 = 0; lay 2 0 0 = -14; finding 2 0 = 4
            finding 2 2 = 0; finding 2 4 = 4
            """);
        Script.run("4 TURN: nobody's", GAME + """
            table 2 16 0 = 1; kind 2 3 3 = 0; deal 2 1 0 = 1; give 2 0 3 = 1; turn 2 = -1; lay 2 0 0 = -14; revoke 2 0 0 = -14
            allowed 2 0 0 = -15; finding 0 0 = 4; finding 1 0 = 4; count 1 = 2
            """);
        Script.run("5 NOT SO, ahead of BARRED; the game is not asked then", hands + """
            forget = 1; lay 2 0 1 = -15; revoke 2 0 1 = -15; allowed 2 0 1 = -15; trace 0 = -1; lay 2 0 0 = 0; forget = 1
            lay 2 1 2 = -15; allowed 2 1 2 = -15; trace 0 = -1; finding 2 0 = 5; finding 2 3 = 0; finding 2 4 = 4
            """);
        Script.run("6 BARRED, with the RULE", hands + """
            lay 2 0 0 = 0; lay 2 1 0 = -16; finding 0 0 = 6; finding 0 1 = 2; finding 0 2 = 1; finding 0 3 = 1; finding 0 4 = 2
            finding 1 0 = -1; lay 2 1 1 = 4; count 0 = 3; count 1 = 1
            """);
    }

    private static void findingsKept() {
        String on = GAME + "table 0 8 0 = 1; deal 0 1 0 = 1;";
        Script.run("the latest 60 are kept: of 59", on + "lay 0 0 0 = -13;".repeat(59) + """
            finding 0 4 = 1; finding 58 4 = 59; finding 59 4 = -1; count 1 = 59
            """);
        Script.run("the latest 60 are kept: of 60", on + "lay 0 0 0 = -13;".repeat(60) + """
            finding 0 4 = 1; finding 59 4 = 60; finding 60 4 = -1; count 1 = 60
            """);
        Script.run("the latest 60 are kept: of 61", on + "lay 0 0 0 = -13;".repeat(61) + """
            finding 0 4 = 2; finding 59 4 = 61; finding 60 4 = -1; count 1 = 61
            """);
    }

    private static void games() {
        Script.run("GAMES 0 .. 5 are there or not (at first)", """
            kindOf 0 = -2; kindOf 5 = -2; count 4 = 0; game -1 0 0 0 = -2; game 6 0 0 0 = -2; game 2147483647 0 0 0 = -2
            game -2147483648 0 0 0 = -2
            game 0 0 0 0 = 1; game 5 0 0 0 = 1; kindOf 0 = 0; kindOf 5 = 0; kindOf 1 = -2; kindOf -1 = -2; kindOf 6 = -2
            count 4 = 2
            table 0 8 5 = 1; table 1 8 6 = -2; table 1 8 1 = -2; table 1 8 -1 = -2; count 3 = 1
            """);
        Script.run("game(): UNKNOWN, ahead of OUTSIDE: KIND", """
            game 6 5 0 0 = -2; game -1 -1 0 0 = -2; game 0 -1 0 0 = -3; game 0 5 0 0 = -3; game 0 2147483647 0 0 = -3
            game 0 -2147483648 0 0 = -3
            count 4 = 0; game 0 0 0 0 = 1; game 1 1 0 0 = 1; game 2 2 0 0 = 1; game 3 3 0 0 = 1; game 4 4 0 1 = 1
            kindOf 0 = 0; kindOf 1 = 1; kindOf 2 = 2; kindOf 3 = 3; kindOf 4 = 4
            """);
        Script.run("game(): a, b count for a PAIR alone", """
            game 0 0 -1 6 = 1; game 1 1 99 99 = 1; game 2 2 5 5 = 1; game 3 3 -2147483648 2147483647 = 1; game 4 5 99 99 = -3
            game 4 4 0 99 = -2; game 4 4 99 0 = -2; game 4 4 0 4 = -2; game 4 4 -1 0 = -2; game 4 4 0 6 = -2; kindOf 4 = -2
            game 4 4 3 0 = 1
            """);
        Script.run("game(): STATE: a or b is a PAIR; UNKNOWN goes ahead", """
            game 0 0 0 0 = 1; game 1 4 0 0 = 1; game 2 4 0 1 = -4; game 2 4 1 0 = -4; game 2 4 1 1 = -4; game 1 4 1 0 = -4
            game 2 4 1 5 = -2; game 2 4 5 1 = -2; kindOf 2 = -2; kindOf 1 = 4; count 4 = 2; game 0 4 0 0 = 1; kindOf 0 = 4
            """);
        Script.run("game(): in place of an earlier one, of which a PAIR is made", """
            game 0 2 0 0 = 1; game 0 4 0 0 = 1; kindOf 0 = 4; table 0 8 0 = 1; deal 0 1 0 = 1; give 0 0 3 = 1; forget = 1
            lay 0 0 0 = 3; trace 0 = 24; trace 1 = 23; trace 2 = 21; trace 3 = 34; trace 4 = 32; trace 5 = 45; trace 6 = 43
            won 0 0 1 = 0
            """);
    }

    private static void tables() {
        Script.run("table(): UNKNOWN ahead of OUTSIDE", GAME + """
            table 4 5 0 = -2; table -1 5 0 = -2; table 0 5 1 = -2; table 0 5 0 = -3; count 3 = 0; table 0 4 0 = 1; count 3 = 1
            """);
        Script.run("table(): anew, in the middle of a DEAL", "game 0 3 0 0 = 1;" + """
            table 0 16 0 = 1; kind 0 0 3 = 0; seat 0 3 false = 1; match 0 1 = 0; deal 0 1 2 = 1; bid 0 0 1 0 = 1
            doubled 0 1 = 1; lay 0 1 9 = -13
            table 0 8 0 = 1; status 0 0 = 0; status 0 1 = 0; status 0 2 = 0; status 0 3 = 0; status 0 4 = 0; status 0 5 = -1
            status 0 6 = -1
            status 0 7 = 0; status 0 8 = 0; turn 0 = -1; winner 0 = -1; trick 0 0 = -1; left 0 0 = -1; left 0 4 = 8
            card 0 7 = 0; card 0 8 = -2
            kind 0 0 0 = 0; seat 0 3 true = 1; undo 0 = -4; replay 0 = -4; deal 0 1 0 = 2; deal 0 1 0 = 3; status 0 2 = 2
            count 0 = 1; count 1 = 1
            """);
        Script.run("table(): anew, SUMS are 0", GAME + """
            table 0 8 0 = 1; seat 0 2 false = 1; deal 0 1 0 = 1; give 0 0 0 = 1; lay 0 0 0 = 0; sum 0 0 = 1; table 1 8 0 = 1
            sum 0 0 = 1; table 0 8 0 = 1; sum 0 0 = 0; tie 0 = 2; digest 0 = NEW
            """.replace("NEW", "" + newDigest()));
        Script.run("table(): a smaller PACK after a larger one has no more CARDS", GAME + """
            table 0 60 0 = 1; deal 0 1 -1 = 1; lay 0 0 0 = CARD; table 0 4 0 = 1; left 0 4 = 4; card 0 4 = -2; won 0 0 2 = 0
            deal 0 1 -1 = 2; left 0 4 = 0
            """.replace("CARD", "" + Mixed.cards(60, 1)[0]));
    }

    /** Four hands that are not dealt, nine times 0, nobody's turn. */
    private static int newDigest() {
        int h = 17;
        for (int k = 0; k < 14; k++) {
            h = 31 * h + (k < 4 || k == 13 ? -1 : 0);
        }
        return h;
    }

    private static void seats() {
        Script.run("seat(): what it was (1 taken)", GAME + """
            table 0 8 0 = 1; seat 0 0 true = 1; seat 0 0 false = 1; seat 0 0 false = 0; seat 0 0 true = 0; seat 0 0 true = 1
            seat 0 3 true = 1
            """);
        Script.run("seat(): one that is taken and is so again keeps its HAND; EMPTY, it has none", GAME + """
            table 0 16 0 = 1; kind 0 1 3 = 0; kind 0 6 3 = 0; deal 0 1 0 = 1; give 0 0 0 = 1; give 0 2 6 = 1; give 0 2 1 = 2
            lay 0 0 0 = 0; status 0 0 = 2
            seat 0 2 true = 1; left 0 2 = 2; hand 0 2 0 = 6; left 0 4 = 13
            seat 0 2 false = 1; left 0 2 = -1; left 0 4 = 15; card 0 6 = 0; card 0 1 = 0; seat 0 2 false = 0; left 0 4 = 15
            seat 0 2 true = 0; left 0 2 = -1; hand 0 2 0 = -12; left 0 4 = 15
            """);
        Script.run("seat(): EMPTY with a HAND of no places", GAME + """
            table 0 16 0 = 1; deal 0 1 0 = 1; give 0 0 0 = 1; lay 0 0 0 = 0; left 0 1 = 0; seat 0 1 false = 1; left 0 1 = -1
            left 0 4 = 15
            """);
        Script.run("seat(): STATE: a DEAL is on; not when it has ENDED or there was none", GAME + """
            table 0 16 0 = 1; seat 0 3 false = 1; deal 0 1 0 = 1; seat 0 3 true = -4; seat 0 0 false = -4; seat 0 0 true = -4
            seat 0 4 true = -2
            give 0 0 0 = 1; seat 0 3 true = -4; lay 0 0 0 = 0; seat 0 3 true = 0; undo 0 = 2; seat 0 3 true = -4; undo 0 = 1
            undo 0 = 0; seat 0 3 true = 0
            """);
        Script.run("SEATS that are all EMPTY", GAME + """
            table 0 8 0 = 1; seat 0 0 false = 1; seat 0 1 false = 1; seat 0 2 false = 1; seat 0 3 false = 1; deal 0 1 -1 = 1
            turn 0 = -1
            status 0 0 = 1; left 0 0 = -1; left 0 4 = 8; give 0 0 0 = -4; lay 0 0 0 = -11; deal 0 1 2 = 2; best 0 0 = 0
            line 0 1 0 = -1; check 0 1 = 1
            """);
    }

    private static void kindsOfCards() {
        Script.run("kind(): UNKNOWN, OUTSIDE, STATE, the first that is so", GAME + """
            table 0 8 0 = 1; deal 0 1 0 = 1; give 0 0 7 = 1; kind 0 8 4 = -2; kind 0 7 4 = -3; kind 0 7 -1 = -3
            kind 0 7 0 = -4; kind 0 6 3 = 0
            """);
        Script.run("kind(): STATE: it is not in THE REST, but in a HAND, THE TRICK, with a SIDE", GAME + """
            table 0 8 0 = 1; kind 0 4 3 = 0; deal 0 1 0 = 1; give 0 0 0 = 1; give 0 1 5 = 1; give 0 1 4 = 2; kind 0 0 1 = -4
            kind 0 4 0 = -4
            lay 0 0 0 = 0; kind 0 0 1 = -4; lay 0 1 0 = 5; kind 0 0 1 = -4; kind 0 5 1 = -4; kind 0 4 0 = -4
            seat 0 1 false = 1; kind 0 4 0 = 3; kind 0 5 1 = -4; deal 0 1 0 = 2; kind 0 0 1 = 0; kind 0 5 1 = 0
            """);
    }

    private static void matches() {
        Script.run("match(): of n DEALS (1 .. 200)", GAME + """
            table 0 4 0 = 1; match 0 0 = -3; match 0 1 = 0; match 0 200 = 0; match 0 201 = -3; match 0 -1 = -3
            match 0 2147483647 = -3; match 0 -2147483648 = -3
            match 0 1 = 0; deal 0 1 0 = 1; deal 0 1 0 = -4; status 0 2 = 1
            """);
        Script.run("match(): UNKNOWN, OUTSIDE, STATE, the first that is so", GAME + """
            table 0 4 0 = 1; deal 0 1 0 = 1; match 1 0 = -2; match 0 0 = -3; match 0 201 = -3; match 0 200 = -4
            give 0 0 0 = 1; match 0 1 = -4
            lay 0 0 0 = 0; match 0 1 = 1; match 0 2 = 0
            """);
        StringBuilder two = new StringBuilder(GAME + "table 0 4 0 = 1; match 0 200 = 0;");
        for (int n = 1; n <= 200; n++) {
            two.append("deal 0 1 0 = " + n + ";");
        }
        Script.run("a MATCH of 200 has 200, not 201", two + "deal 0 1 0 = -4; status 0 2 = 200; undo 0 = 7;"
            + "deal 0 1 0 = 201; deal 0 1 0 = -4");
        Script.run("match(): SUMS are 0", "game 0 0 0 0 = 1;" + """
            table 0 4 0 = 1; seat 0 2 false = 1; seat 0 3 false = 1; deal 0 1 -1 = 1; lay 0 0 0 = A; lay 0 1 0 = B
            seat 0 0 false = 1
            sum 0 0 = 1; match 0 9 = 1; sum 0 0 = 0; sum 0 1 = 0; tie 0 = 2; status 0 2 = 0; won 0 0 0 = 1; status 0 0 = 2
            status 0 1 = 1
            """.replace("A", "" + Mixed.cards(4, 1)[0]).replace("B", "" + Mixed.cards(4, 1)[1]));
    }
}
