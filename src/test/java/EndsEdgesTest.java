/** Each sentence of 4 AN END and of promises 25 to 28 that names a boundary case. */
public final class EndsEdgesTest {
    private static final String TABLE = "game 0 0 0 0 = 1; table 0 60 0 = 1;";
    private static final String NO_END = "best 0 0 = -4; best 0 1 = -4; line 0 0 0 = -4; check 0 0 = -4; claim 0 0 0 = -4;"
        + "claim 0 0 5 = -3;";
    /** Each seat has a suit of its own, seat 0 the turn: all tricks are its. */
    private static final String SIXTEEN = TABLE + """
        deal 0 1 0 = 1; give 0 0 0 = 1; give 0 0 4 = 2; give 0 0 8 = 3; give 0 0 12 = 4; give 0 1 1 = 1; give 0 1 5 = 2
        give 0 1 9 = 3; give 0 1 13 = 4
        give 0 2 2 = 1; give 0 2 6 = 2; give 0 2 10 = 3; give 0 2 14 = 4; give 0 3 3 = 1; give 0 3 7 = 2; give 0 3 11 = 3
        give 0 3 15 = 4
        """;

    public static void main(String[] args) {
        whatIsAnEnd();
        best();
        lines();
        revokes();
        claimNumbers();
        claimedCards();
        claimsEnd();
        Script.end();
    }

    private static void whatIsAnEnd() {
        Script.run("a DEAL is on: there was none, it is on, it has ENDED", TABLE + NO_END + """
            deal 0 1 0 = 1; give 0 0 0 = 1; best 0 0 = 1; check 0 1 = 1; lay 0 0 0 = 0; status 0 0 = 2;
            """ + NO_END);
        Script.run("THE TRICK is empty", TABLE + """
            deal 0 1 0 = 1; give 0 0 0 = 1; give 0 0 1 = 2; give 0 1 4 = 1; best 0 0 = 2; lay 0 0 0 = 0;
            """ + NO_END + "lay 0 1 0 = 4; best 0 0 = 1; line 0 0 0 = 1");
        for (int s = 0; s < 4; s++) {
            StringBuilder text = new StringBuilder(TABLE + "deal 0 1 0 = 1; best 0 0 = 0;");
            for (int k = 0; k < 4; k++) {
                text.append("give 0 " + s + " " + 4 * k + " = " + (k + 1) + "; best 0 " + s % 2 + " = " + (k + 1) + ";");
            }
            Script.run("each HAND has 4 CARDS at most: that of SEAT " + s, text + "check 0 0 = 1; give 0 " + s
                + " 16 = 5;" + NO_END
                + "lay 0 " + s + " 4 = 16; best 0 " + s % 2 + " = 4; best 0 " + (1 - s % 2) + " = 0");
            Script.run("none of them a BLANK: that of SEAT " + s, TABLE + "kind 0 59 3 = 0; kind 0 58 3 = 0;"
                + "deal 0 1 0 = 1; give 0 0 0 = 1; best 0 0 = 1;"
                + "give 0 " + s + " 59 = " + (s == 0 ? 2 : 1) + ";" + NO_END + "undo 0 = 2; best 0 0 = 1");
        }
        Script.run("UNKNOWN ahead of STATE", TABLE + "best 0 2 = -2; line 0 -1 0 = -2; check 0 2 = -2; claim 0 2 9 = -2;"
            + "claim 1 0 9 = -2; best 1 0 = -2");
    }

    private static void best() {
        Script.run("HANDS of no places, nobody has the TURN", TABLE + """
            deal 0 1 0 = 1; turn 0 = -1; best 0 0 = 0; best 0 1 = 0; line 0 0 0 = -1; line 0 1 0 = -1; check 0 0 = 1
            check 0 1 = 1
            """);
        Script.run("HANDS that are NOT DEALT", TABLE + """
            seat 0 0 false = 1; seat 0 1 false = 1; seat 0 2 false = 1; deal 0 1 0 = 1; give 0 3 0 = 1; best 0 0 = 0
            best 0 1 = 1; line 0 0 0 = 0; line 0 0 1 = -1
            """);
        Script.run("the most: all of four, and none", SIXTEEN + "best 0 0 = 4; best 0 1 = 0; check 0 0 = 1; check 0 1 = 1");
        Script.run("HANDS that are short: as many TRICKS as the longest has CARDS", TABLE + """
            deal 0 1 0 = 1; give 0 0 0 = 1; give 0 1 4 = 1; give 0 1 8 = 2; give 0 1 12 = 3; give 0 1 16 = 4; best 0 0 = 0
            best 0 1 = 4; give 0 2 20 = 1
            best 0 0 = 1; best 0 1 = 3; claim 0 1 4 = 0; claim 0 1 3 = 1; won 0 1 0 = 3; won 0 0 0 = 1
            """);
        Script.run("bodies that are asked so do not come to the TRACE; no TRY, no FINDING", SIXTEEN + """
            forget = 1; best 0 0 = 4; check 0 0 = 1; check 0 1 = 1; line 0 0 15 = 15; claim 0 1 1 = 0; trace 0 = -1
            forget = 0; count 0 = 0; count 1 = 0; status 0 8 = 8
            """);
    }

    private static void lines() {
        StringBuilder text = new StringBuilder(SIXTEEN);
        for (int side = 0; side < 2; side++) {
            for (int k = 0; k < 16; k++) {
                text.append("line 0 " + side + " " + k + " = " + k + ";");
            }
        }
        Script.run("CARD k of THE LINE; NONE: it has not so many", text + """
            line 0 0 16 = -1; line 0 0 -1 = -1; line 0 0 2147483647 = -1; line 0 0 -2147483648 = -1; line 0 1 16 = -1
            turn 0 = 0; left 0 3 = 4
            """);
        Script.run("the one at the least place of those that keep BEST: not the first one", TABLE + """
            seat 0 2 false = 1; seat 0 3 false = 1; deal 0 1 0 = 1; give 0 0 0 = 1; give 0 0 5 = 2; give 0 1 9 = 1; give 0 1 2 = 2
            best 0 0 = 1; line 0 0 0 = 0; line 0 0 1 = 2; line 0 0 2 = 5; line 0 0 3 = 9; line 0 0 4 = -1
            """);
        Script.run("the one at the least place: of two that are alike the first", TABLE + """
            deal 0 1 0 = 1; give 0 0 0 = 1; give 0 0 4 = 2; give 0 1 8 = 1; give 0 1 12 = 2; best 0 0 = 0; line 0 0 0 = 0
            line 0 0 1 = 8; line 0 0 2 = 12; line 0 0 3 = 4; line 0 0 4 = -1
            """);
        Script.run("the other SIDE: that keep it down to BEST", TABLE + """
            deal 0 1 0 = 1; give 0 0 8 = 1; give 0 1 4 = 1; give 0 1 12 = 2; best 0 0 = 0; best 0 1 = 2; line 0 0 0 = 8
            line 0 0 1 = 12; line 0 0 2 = 4; line 0 0 3 = -1
            line 0 1 0 = 8; line 0 1 1 = 12; line 0 1 2 = 4
            """);
        Script.run("its own SEATS: what is allowed alone", TABLE + """
            deal 0 1 0 = 1; give 0 1 8 = 1; give 0 2 1 = 1; give 0 2 12 = 2; give 0 2 4 = 3; best 0 0 = 3; line 0 0 0 = 8
            line 0 0 1 = 12; line 0 0 2 = 1; line 0 0 3 = 4
            """);
    }

    private static void revokes() {
        Script.run("ENDS know no REVOKES: one that is to be FOUND costs nothing", TABLE + """
            deal 0 1 0 = 1; give 0 0 12 = 1; give 0 0 9 = 2; give 0 0 13 = 3; give 0 2 1 = 1; give 0 2 0 = 2; give 0 2 4 = 3
            give 0 1 5 = 1
            lay 0 0 0 = 12; lay 0 1 0 = 5; revoke 0 2 0 = 1; revokes 0 2 0 = 1; won 0 0 0 = 1; best 0 0 = 2; best 0 1 = 0
            check 0 0 = 1
            claim 0 0 2 = 1; won 0 0 0 = 3; won 0 1 0 = 0; revokes 0 2 1 = 0
            """);
        Script.run("ENDS know no REVOKES: what is BARRED is not tried", TABLE + """
            deal 0 1 0 = 1; give 0 0 8 = 1; give 0 0 1 = 2; give 0 1 4 = 1; give 0 1 13 = 2; best 0 0 = 1; best 0 1 = 1
            line 0 1 0 = 8; line 0 1 1 = 4; line 0 1 2 = 1; line 0 1 3 = 13
            """);
    }

    private static void claimNumbers() {
        Script.run("claim(): OUTSIDE: n is not 0 .. 4; ahead of STATE", SIXTEEN + """
            claim 0 0 -1 = -3; claim 0 0 5 = -3; claim 0 0 2147483647 = -3; claim 0 0 -2147483648 = -3; claim 0 2 5 = -2
            lay 0 0 0 = 0; claim 0 0 5 = -3; claim 0 0 4 = -4
            """);
        for (int n = 0; n <= 4; n++) {
            Script.run("claim(): BEST is n at least: " + n, SIXTEEN + ("claim 0 0 N = 1; won 0 0 0 = N; won 0 0 1 = N;"
                + "won 0 1 0 = M; won 0 1 1 = M; won 0 0 2 = 16;"
                + "won 0 1 2 = 0; status 0 3 = 4; status 0 0 = 2; status 0 8 = 8").replace("N", "" + n).replace("M", ""
                + (4 - n)));
        }
        Script.run("claim(): 0: it is not; nothing changes", SIXTEEN + """
            claim 0 1 1 = 0; claim 0 1 4 = 0; status 0 0 = 1; turn 0 = 0; left 0 0 = 4; left 0 3 = 4; won 0 1 0 = 0
            card 0 0 = 1; undo 0 = 7; left 0 3 = 3
            """);
        Script.run("claim(): n is BEST, and one more", TABLE + """
            deal 0 1 0 = 1; give 0 0 12 = 1; give 0 0 1 = 2; give 0 1 8 = 1; give 0 1 5 = 2; best 0 0 = 1; claim 0 0 2 = 0
            claim 0 0 1 = 1; won 0 0 0 = 1; won 0 1 0 = 1
            """);
        Script.run("claim(): none of none, when nobody has the TURN", TABLE + """
            deal 0 1 0 = 1; claim 0 0 1 = 0; claim 0 1 0 = 1; status 0 0 = 2; status 0 3 = 0; won 0 0 0 = 0; won 0 1 0 = 0
            status 0 8 = 2; trace 1 = 51; trace 2 = 51; trace 3 = -1
            seat 0 0 false = 1; match 0 3 = 1
            """);
    }

    private static void claimedCards() {
        Script.run("claim(): all CARDS of HANDS are the SIDE's; THE REST and what was won stay", TABLE + """
            seat 0 3 false = 1; deal 0 1 0 = 1; give 0 0 0 = 1; give 0 0 5 = 2; give 0 1 4 = 1; give 0 1 1 = 2
            give 0 2 2 = 1; lay 0 0 0 = 0; lay 0 1 0 = 4; lay 0 2 0 = 2; winner 0 = 1
            best 0 0 = 1; claim 0 0 1 = 1; card 0 0 = 7; card 0 4 = 7; card 0 2 = 7; card 0 5 = 6; card 0 1 = 6; card 0 3 = 0
            won 0 0 2 = 2; won 0 1 2 = 3; winner 0 = 1
            left 0 0 = 0; left 0 1 = 0; left 0 2 = 0; left 0 3 = -1; left 0 4 = 55; hand 0 0 0 = -1; hand 0 3 0 = -12; turn 0 = -1
            """);
        Script.run("claim(): POINTS as TRICKS, whatever the GAME's SCORE", "game 0 2 0 0 = 1; table 0 16 0 = 1;" + """
            deal 0 1 0 = 1; give 0 0 3 = 1; give 0 0 7 = 2; give 0 1 11 = 1; best 0 0 = 1; best 0 1 = 1; claim 0 1 1 = 1
            won 0 0 1 = 1; won 0 1 1 = 1; won 0 1 2 = 3
            """);
    }

    private static void claimsEnd() {
        Script.run("claim(): the DEAL has ENDED: shares, SUMS, the TRACE", TABLE + """
            seat 0 2 false = 1; deal 0 1 0 = 1; give 0 0 0 = 1; give 0 0 4 = 2; give 0 0 8 = 3; forget = 1; claim 0 0 3 = 1
            sum 0 0 = 3; sum 0 2 = 0; sum 0 1 = 0; tie 0 = 0
            trace 0 = 51; trace 1 = 51; trace 2 = -1; lay 0 0 0 = -4; allowed 0 0 0 = -4; give 0 0 12 = -4; best 0 0 = -4
            claim 0 0 0 = -4; deal 0 1 0 = 2
            """);
        Script.run("claim(): taken back", TABLE + """
            deal 0 1 0 = 1; give 0 0 0 = 1; give 0 3 4 = 1; claim 0 1 1 = 1; undo 0 = 3; status 0 0 = 1; left 0 0 = 1
            hand 0 3 0 = 4; card 0 4 = 4; won 0 1 0 = 0; turn 0 = 0
            sum 0 1 = 0; lay 0 0 0 = 0; lay 0 3 0 = 4; winner 0 = 3
            """);
    }
}
