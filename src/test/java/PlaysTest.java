/** Promises 13 to 24: lay, revoke, allowed, turn, trick, hand, left, winner, won, revokes, sum, tie. */
public final class PlaysTest {
    /** Two cards a hand: 0 and 5, 4 and 1, 8 and 2, 6 and 3, in a pack of 16. */
    private static final String HANDS = """
        game 0 0 0 0 = 1; table 0 16 0 = 1; deal 0 1 0 = 1
        give 0 0 0 = 1; give 0 0 5 = 2; give 0 1 4 = 1; give 0 1 1 = 2
        give 0 2 8 = 1; give 0 2 2 = 2; give 0 3 6 = 1; give 0 3 3 = 2
        """;

    public static void main(String[] args) {
        plays();
        findings();
        turns();
        shares();
        revokes();
        Script.end();
    }

    private static void plays() {
        Script.run("13 a deal from the first card to the last", HANDS + """
            status 0 8 = 8; turn 0 = 0; trick 0 0 = -1; left 0 4 = 8
            lay 0 0 0 = 0; trick 0 0 = 0; trick 0 1 = -1; trick 0 -1 = -1; turn 0 = 1
            hand 0 0 0 = 5; hand 0 0 1 = -1; left 0 0 = 1; card 0 0 = 5
            allowed 0 1 1 = 1; lay 0 1 1 = -16; turn 0 = 1; left 0 1 = 2; lay 0 1 0 = 4; trick 0 1 = 4
            hand 0 1 0 = 1; lay 0 2 0 = 8; lay 0 3 0 = 6
            trick 0 0 = -1; winner 0 = 2; turn 0 = 2; won 0 0 0 = 1; won 0 0 1 = 1; won 0 0 2 = 4
            won 0 1 0 = 0; won 0 1 1 = 0; won 0 1 2 = 0; status 0 3 = 1; status 0 0 = 1; sum 0 0 = 0
            lay 0 2 0 = 2; lay 0 3 0 = 3; lay 0 0 0 = 5; status 0 0 = 1; lay 0 1 0 = 1
            status 0 0 = 2; turn 0 = -1; winner 0 = 2; won 0 0 0 = 2; won 0 0 1 = 2; won 0 0 2 = 8; status 0 3 = 2
            sum 0 0 = 1; sum 0 1 = 0; sum 0 2 = 1; sum 0 3 = 0; tie 0 = 0; left 0 0 = 0; hand 0 0 0 = -1
            lay 0 0 0 = -4; revoke 0 0 0 = -4; allowed 0 0 0 = -4; count 0 = 9; count 1 = 1
            """);
        Script.run("13 .. 22 no such table, seat, side", HANDS + """
            lay 1 0 0 = -2; lay 0 4 0 = -2; lay 0 -1 0 = -2; lay 4 0 0 = -2; lay -1 0 0 = -2
            revoke 1 0 0 = -2; revoke 0 4 0 = -2; revoke 0 -1 0 = -2; allowed 1 0 0 = -2; allowed 0 4 0 = -2
            allowed 0 -1 0 = -2; turn 1 = -2; turn 4 = -2; turn -1 = -2; trick 1 0 = -2; trick 4 0 = -2
            hand 1 0 0 = -2; hand 0 4 0 = -2; hand 0 -1 0 = -2; left 1 0 = -2; left 0 5 = -2; left 0 -1 = -2
            winner 1 = -2; winner -1 = -2; won 1 0 0 = -2; won 0 2 0 = -2; won 0 -1 0 = -2; won 0 2 9 = -2
            won 0 0 -1 = -3; won 0 0 3 = -3; revokes 1 0 0 = -2; revokes 0 4 0 = -2; revokes 0 -1 9 = -2
            revokes 0 0 -1 = -3; revokes 0 0 2 = -3; sum 1 0 = -2; sum 0 4 = -2; sum 0 -1 = -2; tie 1 = -2; tie -1 = -2
            trick 0 2147483647 = -1; hand 0 0 2147483647 = -1; hand 0 0 -2147483648 = -1; hand 0 0 -1 = -1
            count 0 = 0; count 1 = 0
            """);
        Script.run("15 whether the game allows it: no try, no finding, but the trace", HANDS + """
            forget = 1; allowed 0 3 0 = 0; allowed 0 3 1 = 0; allowed 0 3 2 = -13; allowed 0 3 -1 = -13; trace 1 = 21; trace 2 = -1
            lay 0 0 0 = 0; allowed 0 1 0 = 0; allowed 0 1 1 = 1; allowed 0 2 1 = 1; allowed 0 3 0 = 0; allowed 0 0 0 = 0
            count 0 = 1; count 1 = 0; turn 0 = 1; forget = 8
            """);
    }

    private static void findings() {
        Script.run("13 the first finding that is so", """
            game 0 0 0 0 = 1; table 3 16 0 = 1; seat 3 2 false = 1; kind 3 3 3 = 0; kind 3 7 3 = 0
            deal 3 1 0 = 1; give 3 0 3 = 1; give 3 0 0 = 2; give 3 1 4 = 1; give 3 1 1 = 2; give 3 1 7 = 3
            lay 3 2 0 = -11; lay 3 2 99 = -11; allowed 3 2 0 = -11; allowed 3 2 -5 = -11
            lay 3 1 3 = -13; lay 3 1 -1 = -13; lay 3 3 0 = -13; lay 3 0 2147483647 = -13
            lay 3 1 2 = -14; allowed 3 1 2 = -15; lay 3 1 0 = -14
            lay 3 0 0 = -15; revoke 3 0 0 = -15; allowed 3 0 0 = -15; lay 3 0 1 = 0
            lay 3 0 0 = -14; lay 3 1 2 = -15; lay 3 1 1 = -16; revoke 3 2 0 = -11; revoke 3 1 3 = -13; revoke 3 0 0 = -14
            count 0 = 17; count 1 = 16
            finding 0 0 = 1; finding 0 1 = 3; finding 0 2 = 2; finding 0 3 = 0; finding 0 4 = 1
            finding 2 0 = 3; finding 2 2 = 1; finding 2 4 = 3
            finding 6 0 = 4; finding 6 1 = 3; finding 6 2 = 1; finding 6 3 = 0; finding 6 4 = 7
            finding 8 0 = 5; finding 8 2 = 0; finding 8 4 = 9; finding 9 0 = 5; finding 9 4 = 10
            finding 11 0 = 5; finding 11 2 = 1; finding 11 4 = 13
            finding 12 0 = 6; finding 12 1 = 3; finding 12 2 = 1; finding 12 3 = 1; finding 12 4 = 14
            finding 15 0 = 4; finding 16 0 = -1; revoke 3 1 1 = 1; count 1 = 16; revokes 3 1 0 = 1
            """);
    }

    private static void turns() {
        Script.run("16 short hands drop out, blanks stay", """
            game 0 0 0 0 = 1; table 0 16 0 = 1; seat 0 1 false = 1; kind 0 3 3 = 0; deal 0 1 0 = 1
            give 0 0 0 = 1; give 0 2 4 = 1; give 0 2 8 = 2; give 0 2 3 = 3; give 0 3 12 = 1; give 0 3 1 = 2; give 0 3 5 = 3
            turn 0 = 0; lay 0 0 0 = 0; turn 0 = 2; lay 0 2 1 = 8; turn 0 = 3; lay 0 3 0 = 12
            winner 0 = 3; turn 0 = 3; won 0 1 2 = 3; lay 0 3 1 = 5; turn 0 = 2; lay 0 2 0 = 4
            winner 0 = 3; turn 0 = 3; left 0 2 = 1; lay 0 3 0 = 1; winner 0 = 3; turn 0 = -1; status 0 0 = 2
            left 0 2 = 1; hand 0 2 0 = 3; card 0 3 = 3; won 0 1 0 = 3; won 0 1 2 = 6; left 0 4 = 9
            sum 0 3 = 3; sum 0 1 = 0; tie 0 = 1
            """);
        Script.run("16 the turn is the winner's, or the next one's that can lay", """
            game 0 0 0 0 = 1; table 0 16 0 = 1; deal 0 1 0 = 1
            give 0 0 0 = 1; give 0 0 1 = 2; give 0 1 4 = 1; give 0 1 5 = 2; give 0 3 12 = 1; give 0 2 8 = 1; give 0 2 9 = 2
            lay 0 0 0 = 0; lay 0 1 0 = 4; lay 0 2 0 = 8; lay 0 3 0 = 12; winner 0 = 3; turn 0 = 0
            lay 0 0 0 = 1; turn 0 = 1; lay 0 1 0 = 5; lay 0 2 0 = 9; winner 0 = 2; status 0 0 = 2
            won 0 0 0 = 1; won 0 1 0 = 1; tie 0 = 2; sum 0 0 = 0
            """);
        Script.run("16 a turn in the middle of the table", """
            game 0 0 0 0 = 1; table 0 16 0 = 1; seat 0 0 false = 1; deal 0 1 0 = 1; give 0 3 0 = 1; give 0 2 4 = 1; give 0 2 1 = 2
            turn 0 = 2; lay 0 2 0 = 4; turn 0 = 3; lay 0 3 0 = 0; winner 0 = 2; turn 0 = 2; lay 0 2 0 = 1; status 0 0 = 2
            sum 0 2 = 2; sum 0 0 = 0; sum 0 1 = 0
            """);
    }

    private static void shares() {
        Script.run("23 shares are cut towards 0; finding 7 where none is taken", """
            game 0 2 0 0 = 1; table 1 16 0 = 1; seat 1 0 false = 1; seat 1 2 false = 1; deal 1 1 0 = 1
            give 1 1 3 = 1; give 1 3 7 = 1; lay 1 1 0 = 3; lay 1 3 0 = 7
            won 1 1 1 = -2; sum 1 1 = -1; sum 1 3 = -1; sum 1 0 = 0; tie 1 = 0
            count 1 = 1; finding 0 0 = 7; finding 0 1 = 1; finding 0 2 = 0; finding 0 3 = 0; finding 0 4 = 2; status 1 8 = 5
            deal 1 1 0 = 2; give 1 1 3 = 1; lay 1 1 0 = 3; won 1 1 1 = -1; sum 1 1 = -1; sum 1 3 = -1; count 1 = 2
            finding 1 4 = 3
            seat 1 3 false = 1; deal 1 1 0 = 3; give 1 1 3 = 1; lay 1 1 0 = 3; sum 1 1 = -2; sum 1 3 = -1; count 1 = 3
            tie 1 = 0
            """);
        Script.run("23 findings 7 of both sides can't be; of side 1", """
            game 0 0 0 0 = 1; table 0 8 0 = 1; seat 0 1 false = 1; seat 0 3 false = 1; deal 0 1 0 = 1; give 0 0 1 = 1
            lay 0 0 0 = 1; finding 0 0 = 7; finding 0 2 = 1; finding 0 4 = 1; sum 0 0 = 0; won 0 0 1 = 1; count 1 = 1
            undo 0 = 2; count 1 = 1; count 0 = 1; lay 0 0 0 = 1; count 1 = 2; finding 1 4 = 2
            """);
        Script.run("24 empty seats' sums count for the side", """
            game 0 0 0 0 = 1; table 0 8 0 = 1; seat 0 2 false = 1; deal 0 1 0 = 1; give 0 0 1 = 1; lay 0 0 0 = 1
            sum 0 0 = 1; seat 0 0 false = 1; sum 0 0 = 1; tie 0 = 0; seat 0 3 false = 1
            seat 0 2 true = 0; deal 0 1 0 = 2; give 0 1 1 = 1; lay 0 0 0 = -11; lay 0 1 0 = 1; tie 0 = 2; sum 0 1 = 1
            match 0 4 = 2; tie 0 = 2; sum 0 0 = 0; sum 0 1 = 0
            """);
    }

    private static void revokes() {
        Script.run("14 a revoke that the other side has won is found, and nothing moves", HANDS + """
            lay 0 0 0 = 0; revoke 0 1 1 = 1; count 1 = 0; revokes 0 1 0 = 1; revokes 0 1 1 = 0
            lay 0 2 0 = 8; lay 0 3 0 = 6; winner 0 = 2; lay 0 2 0 = 2; lay 0 3 0 = 3; lay 0 0 0 = 5; revokes 0 1 1 = 0
            lay 0 1 0 = 4; revokes 0 1 0 = 1; revokes 0 1 1 = 1; won 0 0 0 = 2; won 0 1 0 = 0; status 0 0 = 2
            """);
        String revoked = """
            game 0 0 0 0 = 1; table 0 16 0 = 1; deal 0 1 0 = 1
            give 0 0 12 = 1; give 0 0 5 = 2; give 0 1 4 = 1; give 0 1 1 = 2
            give 0 2 8 = 1; give 0 2 2 = 2; give 0 3 6 = 1; give 0 3 3 = 2
            lay 0 0 0 = 12; lay 0 1 0 = 4; allowed 0 2 1 = 1; revoke 0 2 1 = 2; lay 0 3 0 = 6
            winner 0 = 0; won 0 0 0 = 1; won 0 0 1 = 1; won 0 0 2 = 4; card 0 2 = 6
            lay 0 0 0 = 5; lay 0 1 0 = 1; revokes 0 2 1 = 0
            """;
        Script.run("14 the trick goes to the other side, ahead of the end of the trick", revoked + """
            lay 0 2 0 = 8; revokes 0 2 0 = 1; revokes 0 2 1 = 1
            won 0 0 0 = 0; won 0 0 1 = 0; won 0 0 2 = 0; won 0 1 0 = 1; won 0 1 1 = 1; won 0 1 2 = 4
            card 0 12 = 7; card 0 4 = 7; card 0 2 = 7; card 0 6 = 7; card 0 5 = 5; winner 0 = 0
            lay 0 3 0 = 3; won 0 0 0 = 1; won 0 1 0 = 1; status 0 3 = 2; sum 0 0 = 0; sum 0 1 = 0; tie 0 = 2
            deal 0 1 0 = 2; revokes 0 2 0 = 0; revokes 0 2 1 = 0
            """);
        Script.run("14 taken back, a revoke is not found", revoked + """
            lay 0 2 0 = 8; won 0 1 0 = 1; undo 0 = 7; revokes 0 2 1 = 0; revokes 0 2 0 = 1; won 0 0 0 = 1; card 0 12 = 6
            """);
        Script.run("14 in the trick of the revoke itself nothing is found, the eldest one first", """
            game 0 0 0 0 = 1; table 0 24 0 = 1; seat 0 1 false = 1; seat 0 3 false = 1; deal 0 1 0 = 1
            give 0 0 20 = 1; give 0 0 16 = 2; give 0 0 1 = 3; give 0 0 5 = 4
            give 0 2 3 = 1; give 0 2 7 = 2; give 0 2 0 = 3; give 0 2 4 = 4
            lay 0 0 0 = 20; revoke 0 2 0 = 3; lay 0 0 0 = 16; revoke 0 2 0 = 7; revokes 0 2 0 = 2; won 0 0 0 = 2
            lay 0 0 0 = 1; lay 0 2 0 = 0; revokes 0 2 1 = 1; card 0 20 = 7; card 0 16 = 6
            won 0 0 0 = 2; won 0 1 0 = 1; lay 0 0 0 = 5; lay 0 2 0 = 4; revokes 0 2 1 = 2; card 0 16 = 7
            status 0 0 = 2; won 0 0 0 = 2; won 0 1 0 = 2; won 0 1 2 = 4; sum 0 0 = 1; finding 0 0 = 7; finding 0 2 = 1
            """);
        Script.run("14 both sides revoke: the trick goes, and comes back", """
            game 0 0 0 0 = 1; table 0 16 0 = 1; deal 0 1 0 = 1
            give 0 0 12 = 1; give 0 0 5 = 2; give 0 1 4 = 1; give 0 1 3 = 2
            give 0 2 8 = 1; give 0 2 2 = 2; give 0 3 6 = 1; give 0 3 7 = 2
            lay 0 0 0 = 12; revoke 0 1 1 = 3; revoke 0 2 1 = 2; lay 0 3 0 = 6; winner 0 = 0; won 0 0 0 = 1
            lay 0 0 0 = 5; lay 0 1 0 = 4; revokes 0 1 1 = 1; won 0 0 0 = 1; won 0 1 0 = 0
            lay 0 2 0 = 8; won 0 0 0 = 0; won 0 1 0 = 1; lay 0 3 0 = 7; won 0 0 0 = 1; won 0 1 0 = 1
            """);
        Script.run("14 the trick goes to the other side, and comes back when that side's is found later", """
            game 0 0 0 0 = 1; table 0 16 0 = 1; deal 0 1 0 = 1
            give 0 0 12 = 1; give 0 0 5 = 2; give 0 3 4 = 1; give 0 3 3 = 2; give 0 2 8 = 1; give 0 2 2 = 2
            lay 0 0 0 = 12; revoke 0 2 1 = 2; revoke 0 3 1 = 3; won 0 0 0 = 1
            lay 0 0 0 = 5; lay 0 2 0 = 8; won 0 0 0 = 0; won 0 1 0 = 1; lay 0 3 0 = 4; won 0 0 0 = 2; won 0 1 0 = 0
            card 0 12 = 6; revokes 0 3 1 = 1; status 0 0 = 2; sum 0 0 = 1
            """);
        Script.run("14 what is allowed is no revoke; what rules 2 and 3 bar is laid, but no revoke", """
            game 0 1 0 0 = 1; game 1 2 0 0 = 1; table 0 16 0 = 1; table 1 16 1 = 1; kind 0 15 1 = 0; deal 0 1 0 = 1
            give 0 0 0 = 1; give 0 1 15 = 1; give 0 1 5 = 2; lay 0 0 0 = 0; allowed 0 1 1 = 2; lay 0 1 1 = -16
            finding 0 3 = 2; revoke 0 1 1 = 5; revokes 0 1 0 = 0; winner 0 = 0
            deal 1 1 0 = 2; give 1 0 3 = 1; give 1 0 0 = 2; allowed 1 0 0 = 3; lay 1 0 0 = -16; finding 1 3 = 3; finding 1 1 = 1
            revoke 1 0 0 = 3; revokes 1 0 0 = 0; revoke 1 0 0 = 0; count 1 = 2; status 1 0 = 2
            """);
    }
}
