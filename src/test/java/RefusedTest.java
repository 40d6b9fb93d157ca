/**
 * "REFUSED, the first that is so .. Then nothing changes": every reason of every call, in every state of a table.
 * A twin that was not asked answers the same to all that can be looked at, and to what is done and taken back then.
 */
public final class RefusedTest {
    private static final String NONE_THERE = "game 0 3 0 0 = 1; game 1 0 0 0 = 1; game 2 4 0 1 = 1;";
    private static final String THERE = NONE_THERE + "table 0 16 0 = 1; table 1 8 2 = 1; deal 1 5 -1 = 1; lay 1 2 0 = -14;";
    private static final String NEW = THERE + "kind 0 7 1 = 0; kind 0 3 3 = 0; seat 0 3 false = 1; match 0 2 = 0;";
    /** A deal is on in which nobody has the turn. */
    private static final String BEGUN = NEW + "deal 0 9 0 = 2;";
    private static final String GIVEN = BEGUN + """
        give 0 0 0 = 1; give 0 0 5 = 2; give 0 1 4 = 1; give 0 1 1 = 2; give 0 2 8 = 1; give 0 2 2 = 2; give 0 2 3 = 3
        give 0 2 6 = 4
        """;
    private static final String DOUBLED = GIVEN + "bid 0 1 2 1 = 1; doubled 0 0 = 1;";
    private static final String TWICE = DOUBLED + "doubled 0 1 = 2;";
    /** In the middle of the second trick, a revoke of the first one was found. */
    private static final String LAID = DOUBLED + "lay 0 0 0 = 0; revoke 0 1 1 = 1; lay 0 2 0 = 8; winner 0 = 1;"
        + "lay 0 1 0 = 4; won 0 0 0 = 1;";
    private static final String ENDED = LAID + "lay 0 2 0 = 2; lay 0 0 0 = 5; turn 0 = 2; lay 0 2 1 = 6; status 0 0 = 2;";
    private static final String OVER = ENDED + "deal 0 9 0 = 3; status 0 2 = 2;";
    /** An end between two tricks. */
    private static final String END = NEW + "deal 0 9 0 = 2; give 0 0 0 = 1; give 0 0 5 = 2; give 0 1 4 = 1;"
        + "give 0 1 1 = 2; lay 0 0 0 = 0; lay 0 1 0 = 4;";
    private static final String PROBE = probe();
    /** What is left of a match shows when the deal is over and others begin. */
    private static final String MATCH_PROBE = """
        claim 0 0 0; lay 0 2 0; lay 0 0 0; lay 0 2 1; status 0 0; status 0 2; deal 0 1 0; deal 0 1 0; deal 0 1 0; status 0 2
        sum 0 0; sum 0 1; sum 0 2; sum 0 3
        claim 0 1 0; seat 0 3 true; match 0 1; deal 0 1 0; deal 0 1 0; status 0 2; status 0 8; undo 0; status 0 2
        """;

    public static void main(String[] args) {
        checkProbe();
        numbers();
        gamesAndTables();
        seatsAndMatches();
        kinds();
        deals();
        gifts();
        bids();
        doublings();
        plays();
        ends();
        taken();
        Script.end();
    }

    private static String probe() {
        StringBuilder text = new StringBuilder();
        for (int what = 0; what < 9; what++) {
            text.append("status 0 " + what + "; status 1 " + what + ";");
        }
        text.append("turn 0; winner 0; tie 0; digest 0; digest 1; left 0 4; left 1 4; replay 0; replay 1;");
        for (int s = 0; s < 4; s++) {
            text.append("left 0 S; revokes 0 S 0; revokes 0 S 1; sum 0 S; trick 0 S;".replace("S", "" + s));
        }
        for (int what = 0; what < 3; what++) {
            text.append("won 0 0 " + what + "; won 0 1 " + what + ";");
        }
        for (int n = 0; n < 6; n++) {
            text.append("kindOf N; finding N 0; finding N 1; finding N 2; finding N 3; finding N 4;".replace("N", "" + n));
        }
        for (int n = 0; n < 30; n++) {
            text.append("trace " + n + ";");
        }
        text.append("count 0; count 1; count 2; count 3; count 4; forget;");
        for (int c = 0; c < 16; c++) {
            text.append("card 0 C; kind 0 C 0;".replace("C", "" + c));
        }
        text.append("seat 0 0 true; seat 0 1 true; seat 0 2 true; seat 0 3 true; match 0 3;");
        for (int k = 0; k < 9; k++) {
            text.append("undo 0; digest 0; status 0 1; kind 0 7 0; replay 0;");
        }
        return text + "seat 0 3 true; deal 0 4 -1; lay 0 0 0; finding 0 4; undo 1; digest 1; table 3 4 0; table 0 8 0;"
            + "deal 0 4 -1; digest 0";
    }

    /** A call that is not refused is told by the probe; else the test would see nothing. */
    private static void checkProbe() {
        Script.differs("what a kind() changes is seen", NEW, "kind 0 9 2 = 0", PROBE);
        Script.differs("what a lay() changes is seen", GIVEN, "lay 0 0 0 = 0", PROBE);
        Script.differs("what an allowed() changes is seen", GIVEN, "allowed 0 0 0 = 0", PROBE);
        Script.differs("what a seat() changes is seen", NEW, "seat 0 1 false = 1", PROBE);
        Script.differs("what a match() changes is seen", NEW, "match 0 1 = 0", MATCH_PROBE);
        Script.differs("what a game() changes is seen", NEW, "game 5 1 0 0 = 1", PROBE);
        Script.differs("what a doubled() changes is seen", DOUBLED, "doubled 0 1 = 2", PROBE);
    }

    private static void refused(String before, String answer, String... calls) {
        for (String call : calls) {
            Script.refused("refused", before, call + " = " + answer, PROBE);
            Script.refused("refused", before, call + " = " + answer, MATCH_PROBE);
        }
    }

    private static void numbers() {
        String[] unknown = {"seat 4 0 false", "seat -1 0 false", "seat 2 0 false", "seat 0 4 false", "seat 0 -1 false",
            "kind 4 0 1", "kind 2 0 1", "kind 0 16 1",
            "kind 0 -1 1", "kind 1 8 1", "card 0 16", "card 0 -1", "card 2 0", "match 4 1", "match 2 1", "deal 4 1 0",
            "deal 2 1 0", "give 2 0 9", "give 0 4 9", "give 0 -1 9",
            "give 0 0 16", "give 0 0 -1", "bid 2 0 3 3", "bid 0 4 3 3", "bid 0 -1 3 3", "doubled 2 1", "doubled 0 4",
            "doubled 0 -1", "lay 2 0 0", "lay 0 4 0", "lay 0 -1 0",
            "revoke 2 0 0", "revoke 0 4 0", "revoke 0 -1 0", "allowed 2 0 0", "allowed 0 4 0", "turn 2", "trick 2 0",
            "hand 2 0 0", "hand 0 4 0", "left 2 0", "left 0 5", "winner 2",
            "won 2 0 0", "won 0 2 0", "revokes 2 0 0", "revokes 0 4 0", "sum 2 0", "sum 0 4", "tie 2", "best 2 0",
            "best 0 2", "line 2 0 0", "line 0 2 0", "check 2 0", "check 0 2",
            "claim 2 0 0", "claim 0 2 0", "claim 0 -1 0", "undo 2", "undo 4", "undo -1", "replay 2", "replay 4",
            "digest 2", "digest 4", "status 2 0", "status 4 0", "kindOf 5", "kindOf 6"};
        refused(END, "-2", unknown);
        refused(DOUBLED, "-2", unknown);
        refused(END, "-3", "won 0 0 3", "won 0 0 -1", "revokes 0 0 2", "revokes 0 0 -1", "finding 0 5", "finding 0 -1",
            "count 5", "count -1", "status 0 9", "status 0 -1");
    }

    private static void gamesAndTables() {
        for (String before : new String[] {NONE_THERE + "table 0 4 1 = 1; table 1 4 1 = 1;", GIVEN, LAID, ENDED}) {
            refused(before, "-2", "game 6 0 0 0", "game -1 0 0 0", "game 0 4 5 1", "game 0 4 1 5", "game 5 4 -1 0",
                "game 5 4 0 6", "table 4 8 0", "table -1 8 0", "table 0 8 5", "table 0 8 -1",
                "table 0 8 6", "table 2 8 3");
            refused(before, "-3", "game 0 5 0 0", "game 0 -1 0 0", "game 5 9 0 0", "table 0 0 0", "table 0 3 0",
                "table 0 61 0", "table 0 64 0", "table 0 -4 0", "table 1 6 0", "table 2 6 0");
            refused(before, "-4", "game 0 4 2 1", "game 0 4 1 2", "game 2 4 2 2", "game 5 4 2 2");
        }
    }

    private static void seatsAndMatches() {
        for (String before : new String[] {BEGUN, GIVEN, DOUBLED, LAID, END, OVER}) {
            refused(before, "-4", "seat 0 0 false", "seat 0 0 true", "seat 0 3 true", "seat 0 3 false", "match 0 1",
                "match 0 200");
            refused(before, "-3", "match 0 0", "match 0 201", "match 0 -1");
        }
        for (String before : new String[] {NEW, ENDED}) {
            refused(before, "-3", "match 0 0", "match 0 201", "match 0 -1");
        }
    }

    private static void kinds() {
        for (String before : new String[] {NEW, BEGUN, GIVEN, LAID, ENDED}) {
            refused(before, "-3", "kind 0 9 -1", "kind 0 9 4", "kind 0 0 4", "kind 0 3 -1");
        }
        refused(GIVEN, "-4", "kind 0 0 1", "kind 0 3 0", "kind 0 6 2");
        refused(LAID, "-4", "kind 0 4 1", "kind 0 0 1", "kind 0 8 1", "kind 0 3 0", "kind 0 5 3");
        refused(ENDED, "-4", "kind 0 3 0", "kind 0 0 1", "kind 0 6 1");
    }

    private static void deals() {
        for (String before : new String[] {NEW, BEGUN, GIVEN, LAID, ENDED, OVER}) {
            refused(before, "-3", "deal 0 1 -2", "deal 0 1 5", "deal 0 1 2147483647", "deal 0 1 -2147483648");
        }
        for (String before : new String[] {GIVEN, DOUBLED, LAID, END, OVER}) {
            refused(before, "-4", "deal 0 1 0", "deal 0 1 -1", "deal 0 9 4");
        }
        refused(GIVEN, "-4", "deal 1 5 0");
        refused(GIVEN, "-3", "deal 1 5 2");
    }

    private static void gifts() {
        refused(NEW, "-4", "give 0 0 0", "give 0 3 0");
        refused(BEGUN, "-4", "give 0 3 0");
        refused(GIVEN, "-3", "give 0 2 9", "give 0 2 0", "give 1 0 0");
        refused(GIVEN, "-4", "give 0 0 0", "give 0 0 4", "give 0 3 9", "give 0 1 0");
        refused(LAID, "-4", "give 0 0 9", "give 0 3 9", "give 0 1 9", "give 0 1 0");
        refused(ENDED, "-4", "give 0 0 9", "give 0 2 9", "give 0 3 9");
        refused(END, "-4", "give 0 0 9", "give 0 2 9");
    }

    private static void bids() {
        for (String before : new String[] {NEW, BEGUN, DOUBLED, LAID, ENDED}) {
            refused(before, "-3", "bid 0 0 0 0", "bid 0 0 5 0", "bid 0 0 4 4", "bid 0 0 4 -1", "bid 0 3 -1 0",
                "bid 1 0 2 0");
        }
        refused(NEW, "-4", "bid 0 0 1 0", "bid 1 0 1 0");
        refused(BEGUN, "-4", "bid 0 3 1 0");
        refused(DOUBLED, "-4", "bid 0 0 2 1", "bid 0 0 2 0", "bid 0 0 1 3", "bid 0 3 4 3", "bid 1 0 1 0");
        refused(LAID, "-4", "bid 0 0 4 3", "bid 0 1 2 2");
        refused(END, "-4", "bid 0 0 4 3");
        refused(ENDED, "-4", "bid 0 0 4 3");
    }

    private static void doublings() {
        refused(NEW, "-4", "doubled 0 0", "doubled 1 1");
        refused(GIVEN, "-4", "doubled 0 0", "doubled 0 1", "doubled 0 3");
        refused(GIVEN + "bid 0 1 2 1 = 1;", "-4", "doubled 0 1", "doubled 0 3");
        refused(DOUBLED, "-4", "doubled 0 0", "doubled 0 2", "doubled 0 3");
        refused(TWICE, "-4", "doubled 0 0", "doubled 0 1", "doubled 0 2", "doubled 0 3");
        refused(LAID, "-4", "doubled 0 1", "doubled 0 0");
        refused(ENDED, "-4", "doubled 0 1", "doubled 0 0");
    }

    private static void plays() {
        for (String before : new String[] {NEW, ENDED}) {
            refused(before, "-4", "lay 0 0 0", "lay 0 3 0", "lay 0 2 0", "revoke 0 0 0", "revoke 0 0 -1", "allowed 0 0 0",
                "allowed 0 3 9", "allowed 0 2 0");
        }
    }

    private static void ends() {
        for (String before : new String[] {NEW, GIVEN, LAID, ENDED, END + "lay 0 1 0 = 1;"}) {
            refused(before, "-4", "best 0 0", "best 0 1", "line 0 0 0", "line 0 1 99", "check 0 0", "check 0 1",
                "claim 0 0 0", "claim 0 1 4");
            refused(before, "-3", "claim 0 0 -1", "claim 0 1 5");
        }
        refused(END, "-3", "claim 0 0 -1", "claim 0 1 5", "claim 0 0 2147483647");
        refused(BEGUN, "-3", "claim 0 0 -1", "claim 0 1 5");
    }

    private static void taken() {
        refused(NEW, "-4", "undo 0", "replay 0");
        refused(GIVEN + "undo 0 = 7; undo 0 = 6; undo 0 = 5; undo 0 = 4; undo 0 = 3; undo 0 = 2; undo 0 = 1; undo 0 = 0;",
            "-4", "undo 0");
        refused(BEGUN + "undo 0 = 0;", "-4", "undo 0", "replay 0");
    }
}
