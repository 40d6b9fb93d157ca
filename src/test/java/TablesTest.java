/** Promises 1 to 8: a new object, game, kindOf, table, seat, kind, card, match. */
public final class TablesTest {
    public static void main(String[] args) {
        newObject();
        games();
        tables();
        seats();
        kinds();
        cards();
        matches();
        Script.end();
    }

    private static void newObject() {
        Script.run("1 nothing is there", """
            count 0 = 0; count 1 = 0; count 2 = 0; count 3 = 0; count 4 = 0
            kindOf 0 = -2; kindOf 1 = -2; kindOf 2 = -2; kindOf 3 = -2; kindOf 4 = -2; kindOf 5 = -2
            trace 0 = -1; finding 0 0 = -1; forget = 0
            turn 0 = -2; turn 1 = -2; turn 2 = -2; turn 3 = -2
            seat 0 0 true = -2; kind 0 0 9 = -2; card 0 0 = -2; match 0 999 = -2; deal 0 0 99 = -2
            give 0 0 0 = -2; bid 0 0 0 9 = -2; doubled 0 0 = -2; lay 0 0 0 = -2; revoke 0 0 0 = -2
            allowed 0 0 0 = -2; trick 0 0 = -2; hand 0 0 0 = -2; left 0 0 = -2; winner 0 = -2; won 0 0 9 = -2
            revokes 0 0 9 = -2; sum 0 0 = -2; tie 0 = -2; best 0 0 = -2; line 0 0 0 = -2; check 0 0 = -2
            claim 0 0 9 = -2; undo 0 = -2; replay 0 = -2; digest 0 = -2; status 0 99 = -2
            table 0 16 0 = -2; game 0 4 0 0 = -2
            count 0 = 0; count 3 = 0; count 4 = 0
            """);
    }

    private static void games() {
        Script.run("2 every kind, in place of an earlier one", """
            game 0 0 0 0 = 1; kindOf 0 = 0; count 4 = 1
            game 1 1 0 0 = 1; kindOf 1 = 1; count 4 = 2
            game 2 2 0 0 = 1; kindOf 2 = 2
            game 3 3 0 0 = 1; kindOf 3 = 3
            game 4 4 0 3 = 1; kindOf 4 = 4
            game 5 4 2 2 = 1; kindOf 5 = 4; count 4 = 6
            game 0 3 -7 99 = 1; kindOf 0 = 3; count 4 = 6
            game 5 0 5 5 = 1; kindOf 5 = 0
            game 5 4 5 5 = 1; kindOf 5 = 4
            kindOf -1 = -2; kindOf 6 = -2; kindOf 2147483647 = -2; kindOf -2147483648 = -2
            """);
        Script.run("2 refused, the first that is so; nothing changes", """
            game -1 0 0 0 = -2; game 6 0 0 0 = -2; game 6 9 0 0 = -2; game -2147483648 4 0 0 = -2
            game 0 -1 0 0 = -3; game 0 5 0 0 = -3; game 0 2147483647 9 9 = -3
            game 0 4 1 1 = -2; game 0 4 -1 0 = -2; game 0 4 0 6 = -2
            count 4 = 0
            game 0 0 0 0 = 1; game 1 1 0 0 = 1; game 2 4 0 1 = 1
            game 3 4 2 0 = -4; game 3 4 0 2 = -4; game 3 4 2 2 = -4; game 0 4 2 1 = -4
            game 3 4 2 5 = -2; game 3 4 5 2 = -2
            kindOf 0 = 0; kindOf 3 = -2; count 4 = 3
            """);
        Script.run("2 tables keep the game that they have", """
            game 0 0 0 0 = 1; table 0 16 0 = 1; game 0 1 0 0 = 1; deal 0 1 -1 = 1
            forget = 1; lay 0 0 0 = 12
            trace 0 = 21; trace 1 = -1
            """.replace("lay 0 0 0 = 12", firstLay(16, 1)));
        Script.run("2 a pair has its games as they were then", """
            game 0 0 0 0 = 1; game 1 2 0 0 = 1; game 2 4 0 1 = 1
            game 0 3 0 0 = 1; game 1 3 0 0 = 1
            table 0 8 2 = 1; deal 0 1 0 = 1; give 0 0 7 = 1; trace 0 = 12; forget = 1
            lay 0 0 0 = 7
            trace 0 = 24; trace 1 = 21; trace 2 = 34; trace 3 = 31; trace 4 = 45; trace 5 = 43
            trace 6 = 53; trace 7 = 51; trace 8 = 53; trace 9 = 51; trace 10 = -1
            won 0 0 1 = 0
            """);
    }

    private static String firstLay(int pack, int seed) {
        return "lay 0 0 0 = " + Mixed.cards(pack, seed)[0];
    }

    private static void tables() {
        Script.run("4 packs and refusals", """
            game 0 0 0 0 = 1
            table 0 4 0 = 1; count 3 = 1; card 0 3 = 0; card 0 4 = -2; left 0 4 = 4
            table 3 60 0 = 1; count 3 = 2; card 3 59 = 0; card 3 60 = -2; left 3 4 = 60
            table 1 0 0 = -3; table 1 2 0 = -3; table 1 3 0 = -3; table 1 5 0 = -3; table 1 58 0 = -3
            table 1 61 0 = -3; table 1 64 0 = -3; table 1 -4 0 = -3; table 1 -2147483648 0 = -3
            table -1 8 0 = -2; table 4 8 0 = -2; table 4 5 0 = -2; table 1 8 1 = -2; table 1 8 -1 = -2
            table 1 8 6 = -2; table 1 5 6 = -2; count 3 = 2
            """);
        Script.run("4 a new table has all in the rest, all seats taken, hands not dealt", """
            game 0 0 0 0 = 1; table 2 8 0 = 1
            left 2 0 = -1; left 2 1 = -1; left 2 2 = -1; left 2 3 = -1; left 2 4 = 8
            hand 2 0 0 = -12; turn 2 = -1; winner 2 = -1; trick 2 0 = -1
            status 2 0 = 0; status 2 1 = 0; status 2 2 = 0; status 2 3 = 0; status 2 4 = 0; status 2 5 = -1
            status 2 6 = -1; status 2 7 = 0; status 2 8 = 0
            sum 2 0 = 0; tie 2 = 2; won 2 0 0 = 0; won 2 1 1 = 0; won 2 0 2 = 0; revokes 2 3 0 = 0
            kind 2 7 0 = 0; seat 2 0 true = 1; seat 2 1 true = 1; seat 2 2 true = 1; seat 2 3 true = 1
            lay 2 0 0 = -4; revoke 2 0 0 = -4; allowed 2 0 0 = -4; best 2 0 = -4; line 2 0 0 = -4
            check 2 0 = -4; claim 2 0 0 = -4; undo 2 = -4; replay 2 = -4; give 2 0 0 = -4; doubled 2 0 = -4
            count 0 = 0; count 1 = 0
            """);
        Script.run("4 anew: seats, kinds, sums, the deal, the match, what is kept are gone", """
            game 0 0 0 0 = 1; game 1 3 0 0 = 1; table 0 4 0 = 1; kind 0 2 1 = 0; seat 0 3 false = 1
            match 0 2 = 0; deal 0 1 0 = 1; give 0 0 2 = 1; lay 0 0 0 = 2; status 0 0 = 2; status 0 8 = 3
            sum 0 0 = 0; won 0 0 0 = 1; winner 0 = 0
            table 0 5 1 = -3; status 0 0 = 2; status 0 8 = 3; won 0 0 0 = 1
            table 0 8 1 = 1; status 0 0 = 0; status 0 1 = 0; status 0 2 = 0; status 0 8 = 0; undo 0 = -4
            won 0 0 0 = 0; winner 0 = -1; card 0 2 = 0; card 0 7 = 0; left 0 0 = -1
            kind 0 2 0 = 0; seat 0 3 true = 1; count 3 = 1; count 2 = 1
            deal 0 1 -1 = 2; deal 0 1 -1 = -4; left 0 0 = 2; status 0 2 = 1
            table 0 4 0 = 1; status 0 0 = 0; deal 0 1 -1 = 3
            """);
    }

    private static void seats() {
        Script.run("5 what it was; refusals", """
            game 0 0 0 0 = 1; table 0 16 0 = 1
            seat 0 1 false = 1; seat 0 1 false = 0; seat 0 1 true = 0; seat 0 1 true = 1
            seat 0 -1 true = -2; seat 0 4 true = -2; seat 4 0 true = -2; seat 1 0 false = -2
            seat 0 2 false = 1; deal 0 1 2 = 1; seat 0 0 false = -4; seat 0 2 true = -4; seat 0 4 true = -2
            left 0 2 = -1; left 0 0 = 2; left 0 4 = 10
            """);
        Script.run("5 a deal without a turn is on, too", """
            game 0 0 0 0 = 1; table 0 16 0 = 1; deal 0 1 0 = 1; turn 0 = -1; status 0 0 = 1
            seat 0 0 false = -4; match 0 5 = -4
            """);
        Script.run("5 the cards of a hand come to the rest", """
            game 0 0 0 0 = 1; table 0 16 0 = 1; kind 0 3 3 = 0; kind 0 7 3 = 0
            deal 0 1 0 = 1; give 0 0 3 = 1; give 0 0 0 = 2; give 0 1 7 = 1; give 0 1 4 = 2
            lay 0 0 1 = 0; lay 0 1 1 = 4; status 0 0 = 2; winner 0 = 1
            left 0 0 = 1; left 0 1 = 1; left 0 2 = 0; left 0 4 = 12; card 0 3 = 1; hand 0 0 0 = 3
            kind 0 3 0 = -4
            seat 0 0 true = 1; left 0 0 = 1
            seat 0 0 false = 1; left 0 0 = -1; left 0 4 = 13; card 0 3 = 0; hand 0 0 0 = -12; card 0 0 = 7
            kind 0 3 0 = 3
            seat 0 0 true = 0; left 0 0 = -1; left 0 4 = 13
            seat 0 1 false = 1; left 0 4 = 14; card 0 7 = 0
            """);
    }

    private static void kinds() {
        Script.run("6 what it had; refusals", """
            game 0 0 0 0 = 1; table 0 8 0 = 1; table 1 8 0 = 1
            kind 0 5 1 = 0; kind 0 5 2 = 1; kind 0 5 3 = 2; kind 0 5 0 = 3; kind 0 5 0 = 0; kind 0 5 2 = 0
            kind 1 5 2 = 0
            kind 0 -1 0 = -2; kind 0 8 0 = -2; kind 0 8 9 = -2; kind 2 0 0 = -2; kind -1 0 0 = -2
            kind 0 0 -1 = -3; kind 0 0 4 = -3; kind 0 0 0 = 0
            deal 0 1 0 = 1; give 0 0 5 = 1; give 0 1 6 = 1; kind 0 5 0 = -4; kind 0 5 4 = -3; kind 0 4 1 = 0
            lay 0 0 0 = 5; kind 0 5 0 = -4; lay 0 1 0 = 6; kind 0 5 0 = -4; kind 0 6 0 = -4; kind 0 4 0 = 1
            deal 0 1 0 = 2; kind 0 5 0 = 2; kind 0 6 0 = 0
            """);
    }

    private static void cards() {
        Script.run("7 where a card is", """
            game 0 0 0 0 = 1; table 0 16 0 = 1
            deal 0 1 0 = 1; give 0 0 0 = 1; give 0 1 4 = 1; give 0 2 8 = 1; give 0 3 12 = 1
            card 0 0 = 1; card 0 4 = 2; card 0 8 = 3; card 0 12 = 4; card 0 1 = 0
            lay 0 0 0 = 0; card 0 0 = 5; lay 0 1 0 = 4; card 0 4 = 5
            lay 0 2 0 = 8; lay 0 3 0 = 12; card 0 0 = 7; card 0 4 = 7; card 0 8 = 7; card 0 12 = 7; card 0 1 = 0
            card 0 -1 = -2; card 0 16 = -2; card 1 0 = -2; card -1 0 = -2; card 4 0 = -2
            deal 0 1 0 = 2; card 0 0 = 0; give 0 2 0 = 1; lay 0 2 0 = 0; card 0 0 = 6
            """);
    }

    private static void matches() {
        Script.run("8 deals that began are counted, sums are 0 again", """
            game 0 0 0 0 = 1; table 0 4 0 = 1
            match 0 0 = -3; match 0 201 = -3; match 0 -1 = -3; match 1 0 = -2; match -1 1 = -2; match 4 1 = -2
            match 0 200 = 0; match 0 2 = 0
            seat 0 2 false = 1; deal 0 1 0 = 1; give 0 0 0 = 1
            match 0 2 = -4; match 0 0 = -3
            lay 0 0 0 = 0; sum 0 0 = 1; tie 0 = 0; status 0 2 = 1
            deal 0 1 -1 = 2; status 0 2 = 2; undo 0 = 3; status 0 2 = 1; deal 0 1 0 = 3
            status 0 2 = 2; deal 0 1 0 = -4; deal 0 1 2 = -3
            give 0 0 0 = 1; lay 0 0 0 = 0; sum 0 0 = 2; deal 0 1 0 = -4
            match 0 1 = 2; sum 0 0 = 0; tie 0 = 2; status 0 2 = 0; status 0 0 = 2; status 0 1 = 3
            deal 0 1 0 = 4; deal 0 1 0 = -4
            """);
        StringBuilder long200 = new StringBuilder("game 0 0 0 0 = 1; table 0 4 0 = 1;");
        for (int n = 1; n <= 200; n++) {
            long200.append("deal 0 5 0 = ").append(n).append(';');
        }
        Script.run("8 a match is of 200 deals at first", long200 + "deal 0 5 0 = -4; status 0 2 = 200; match 0 3 = -4");
    }
}
