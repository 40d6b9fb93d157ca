/** Promises 25 to 28: best, line, check, claim. */
public final class EndsTest {
    private static final String EIGHT = """
        game 0 0 0 0 = 1; table 0 16 0 = 1; deal 0 1 0 = 1
        give 0 0 12 = 1; give 0 0 1 = 2; give 0 1 8 = 1; give 0 1 5 = 2
        give 0 2 0 = 1; give 0 2 2 = 2; give 0 3 4 = 1; give 0 3 6 = 2
        """;
    /** Seat 1 may throw away its 9 or its 2 on suit 0; only with its 9 it has a trick. */
    private static final String THROWING = """
        game 0 0 0 0 = 1; table 0 16 0 = 1; seat 0 2 false = 1; seat 0 3 false = 1; deal 0 1 0 = 1
        give 0 0 5 = 1; give 0 0 0 = 2; give 0 1 9 = 1; give 0 1 2 = 2
        """;

    public static void main(String[] args) {
        bestPlays();
        otherGames();
        noEnds();
        claims();
        Script.end();
    }

    private static void bestPlays() {
        Script.run("25 26 27 two cards a hand", EIGHT + """
            best 0 0 = 1; best 0 1 = 1; check 0 0 = 1; check 0 1 = 1
            line 0 0 0 = 12; line 0 0 1 = 8; line 0 0 2 = 0; line 0 0 3 = 4; line 0 0 4 = 1; line 0 0 5 = 5
            line 0 0 6 = 2; line 0 0 7 = 6; line 0 0 8 = -1; line 0 0 -1 = -1; line 0 0 2147483647 = -1
            line 0 1 0 = 12; line 0 1 1 = 8; line 0 1 8 = -1; count 0 = 0; turn 0 = 0; left 0 0 = 2
            """);
        Script.run("25 26 what is best is not at the first place", THROWING + """
            forget = 1; best 0 0 = 1; line 0 0 0 = 0; line 0 0 1 = 2; line 0 0 2 = 5; line 0 0 3 = 9; line 0 0 4 = -1
            best 0 1 = 1; line 0 1 0 = 0; line 0 1 1 = 2; line 0 1 2 = 5; line 0 1 3 = 9; check 0 0 = 1; check 0 1 = 1
            trace 0 = -1; forget = 0; count 1 = 0
            """);
        Script.run("25 a trick later", THROWING + """
            lay 0 0 1 = 0; best 0 0 = -4; line 0 0 0 = -4; check 0 1 = -4; claim 0 0 0 = -4; lay 0 1 0 = 9
            won 0 0 0 = 1; best 0 0 = 1; best 0 1 = 0; line 0 0 0 = 5; line 0 0 1 = 2; line 0 0 2 = -1; check 0 0 = 1
            """);
        Script.run("25 hands that are short or not dealt", """
            game 0 0 0 0 = 1; table 0 60 0 = 1; seat 0 0 false = 1; deal 0 1 0 = 1; give 0 3 0 = 1; give 0 3 4 = 2
            give 0 3 8 = 3; give 0 3 12 = 4; give 0 1 16 = 1; give 0 2 20 = 1; turn 0 = 1
            best 0 0 = 1; best 0 1 = 3; line 0 0 0 = 16; line 0 0 1 = 20; line 0 0 2 = 0; line 0 0 3 = 4; line 0 0 5 = 12
            line 0 0 6 = -1; check 0 0 = 1; check 0 1 = 1; give 0 3 24 = 5; best 0 0 = -4; claim 0 0 0 = -4
            """);
        Script.run("25 an end of no cards", """
            game 0 0 0 0 = 1; table 0 16 0 = 1; deal 0 1 0 = 1; best 0 0 = 0; best 0 1 = 0; line 0 0 0 = -1; check 0 0 = 1
            claim 0 0 1 = 0; status 0 0 = 1; claim 0 0 0 = 1; status 0 0 = 2; won 0 0 0 = 0; won 0 1 0 = 0; left 0 0 = 0
            """);
    }

    private static void otherGames() {
        Script.run("25 must: the trump has to be laid", """
            game 0 1 0 0 = 1; table 0 16 0 = 1; seat 0 2 false = 1; seat 0 3 false = 1; kind 0 3 1 = 0; deal 0 1 0 = 1
            give 0 0 0 = 1; give 0 0 13 = 2; give 0 1 2 = 1; give 0 1 3 = 2
            best 0 0 = 0; best 0 1 = 2; line 0 0 0 = 0; line 0 0 1 = 3; line 0 0 2 = 2; line 0 0 3 = 13
            """);
        Script.run("25 void: suit 3 is not led; a joker does not win", """
            game 0 2 0 0 = 1; table 0 16 0 = 1; seat 0 2 false = 1; seat 0 3 false = 1; kind 0 14 2 = 0; deal 0 1 0 = 1
            give 0 0 15 = 1; give 0 0 0 = 2; give 0 1 14 = 1; give 0 1 4 = 2
            best 0 0 = 0; line 0 0 0 = 0; line 0 0 1 = 4; line 0 0 2 = 14; line 0 0 3 = 15; line 0 0 4 = -1
            best 0 1 = 2; check 0 0 = 1; check 0 1 = 1
            """);
        Script.run("25 auction: the main suit wins", """
            game 0 3 0 0 = 1; table 0 16 0 = 1; seat 0 2 false = 1; seat 0 3 false = 1; deal 0 1 0 = 1
            give 0 0 12 = 1; give 0 0 13 = 2; give 0 1 2 = 1; give 0 1 6 = 2; best 0 0 = 2; best 0 1 = 0
            bid 0 0 1 2 = 1; best 0 0 = 0; best 0 1 = 2; undo 0 = 5; best 0 0 = 2
            """);
    }

    private static void noEnds() {
        Script.run("25 .. 28 no end; no such side; the first that is so", EIGHT + """
            best 0 2 = -2; best 0 -1 = -2; best 1 0 = -2; line 0 2 0 = -2; line 1 0 0 = -2; check 0 2 = -2; check 1 0 = -2
            claim 0 2 9 = -2; claim 1 0 9 = -2; claim 0 0 5 = -3; claim 0 0 -1 = -3; claim 0 -1 0 = -2
            lay 0 0 0 = 12; best 0 0 = -4; line 0 1 0 = -4; check 0 1 = -4; claim 0 0 5 = -3; claim 0 0 4 = -4
            """);
        Script.run("25 a blank in a hand", """
            game 0 0 0 0 = 1; table 0 16 0 = 1; kind 0 3 3 = 0; deal 0 1 0 = 1; give 0 0 0 = 1; best 0 0 = 1
            give 0 1 3 = 1; best 0 0 = -4; line 0 0 0 = -4; check 0 0 = -4; claim 0 0 0 = -4; lay 0 0 0 = 0; status 0 0 = 2
            best 0 0 = -4
            """);
    }

    private static void claims() {
        Script.run("28 right and wrong", THROWING + """
            claim 0 0 2 = 0; status 0 0 = 1; status 0 8 = 5; turn 0 = 0; left 0 0 = 2; claim 0 1 2 = 0; forget = 1
            claim 0 0 1 = 1; status 0 0 = 2; status 0 8 = 6; turn 0 = -1; winner 0 = -1; status 0 3 = 2
            won 0 0 0 = 1; won 0 0 1 = 1; won 0 0 2 = 4; won 0 1 0 = 1; won 0 1 1 = 1; won 0 1 2 = 0; card 0 9 = 6
            left 0 0 = 0; left 0 1 = 0; left 0 2 = -1; sum 0 0 = 1; sum 0 1 = 1; trace 0 = 51; trace 1 = 51; trace 2 = -1
            claim 0 0 0 = -4; lay 0 0 0 = -4; give 0 0 3 = -4; count 0 = 0
            undo 0 = 5; status 0 0 = 1; left 0 0 = 2; hand 0 1 1 = 2; sum 0 0 = 0; best 0 0 = 1
            """);
        Script.run("28 fewer than the best are the side's, the others the other side's", """
            game 0 1 0 0 = 1; table 0 16 0 = 1; kind 0 0 1 = 0; deal 0 1 0 = 1
            give 0 0 12 = 1; give 0 0 13 = 2; give 0 0 14 = 3; give 0 1 1 = 1; give 0 3 2 = 1; best 0 0 = 3
            claim 0 0 4 = 0; claim 0 0 2 = 1; won 0 0 0 = 2; won 0 0 1 = 2; won 0 1 0 = 1; won 0 1 1 = 1; won 0 0 2 = 5
            sum 0 0 = 1; sum 0 2 = 1; sum 0 1 = 0; sum 0 3 = 0
            """);
        Script.run("28 the other side claims, after a trick; the bid counts claimed tricks", """
            game 0 3 0 0 = 1; table 0 16 0 = 1; deal 0 1 0 = 1; give 0 0 0 = 1; give 0 0 5 = 2; give 0 1 12 = 1; give 0 1 13 = 2
            bid 0 3 2 3 = 1; doubled 0 0 = 1; lay 0 0 0 = 0; lay 0 1 0 = 12; won 0 1 0 = 1; winner 0 = 1
            claim 0 1 1 = 1; winner 0 = 1; won 0 1 0 = 2; won 0 1 1 = 2; won 0 0 0 = 0; sum 0 1 = 22; sum 0 3 = 22; tie 0 = 1
            card 0 5 = 7; card 0 13 = 7; won 0 1 2 = 4; won 0 0 2 = 0
            """);
        Script.run("28 finding 7 comes with a claim, too", """
            game 0 0 0 0 = 1; table 2 16 0 = 1; seat 2 0 false = 1; seat 2 2 false = 1; deal 2 1 0 = 1; give 2 1 0 = 1
            claim 2 1 1 = 1; finding 0 0 = 7; finding 0 1 = 2; finding 0 2 = 0; finding 0 3 = 0; count 1 = 1; sum 2 1 = 0
            """);
    }
}
