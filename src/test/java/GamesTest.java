/** What the games say (part 2 of the document), through promises 2, 13, 15, 21, 23, 33 and 34. */
public final class GamesTest {
    public static void main(String[] args) {
        followAllows();
        mustAllows();
        voidAllows();
        followWins();
        voidWins();
        auctionWins();
        scores();
        settles();
        pairs();
        Script.end();
    }

    private static String game(int type) {
        return "game 0 " + type + " 0 0 = 1; table 0 16 0 = 1;";
    }

    private static void followAllows() {
        Script.run("21 jokers, a led joker, trumps as a colour of their own", game(0) + """
            kind 0 13 2 = 0; kind 0 4 1 = 0; kind 0 9 1 = 0; kind 0 3 3 = 0; deal 0 1 0 = 1
            give 0 0 0 = 1; give 0 1 13 = 1; give 0 1 8 = 2; give 0 1 4 = 3; give 0 1 3 = 4
            give 0 2 4 = -4; give 0 2 1 = 1; give 0 2 12 = 2; give 0 3 9 = 1; give 0 3 5 = 2
            # suit 0 is led; card 4 is a trump of suit 0, so it is not of its colour
            lay 0 0 0 = 0; allowed 0 1 0 = 0; allowed 0 1 1 = 0; allowed 0 1 2 = 1; allowed 0 1 3 = -15
            allowed 0 2 0 = 1; allowed 0 2 1 = 0; allowed 0 3 0 = 0; allowed 0 3 1 = 0
            lay 0 1 0 = 13; lay 0 2 1 = 12; lay 0 3 0 = 9; winner 0 = 1
            # a trump is led
            lay 0 1 1 = 4; allowed 0 2 0 = 0; lay 0 2 0 = 1; lay 0 3 0 = 5; winner 0 = 1; lay 0 1 0 = 8; status 0 0 = 2
            left 0 1 = 1; won 0 1 1 = 3; sum 0 1 = 1; sum 0 3 = 1
            """);
        Script.run("21 when a joker is led all may be laid", game(0) + """
            kind 0 13 2 = 0; deal 0 1 0 = 1; give 0 0 13 = 1; give 0 1 1 = 1; give 0 1 0 = 2; give 0 2 15 = 1
            lay 0 0 0 = 13; allowed 0 1 0 = 0; allowed 0 1 1 = 0; lay 0 1 1 = 0; lay 0 2 0 = 15; winner 0 = 0
            """);
        Script.run("21 a trump must be followed by a trump", game(0) + """
            kind 0 13 1 = 0; kind 0 0 1 = 0; deal 0 1 0 = 1; give 0 0 13 = 1; give 0 1 1 = 1; give 0 1 0 = 2
            lay 0 0 0 = 13; allowed 0 1 0 = 1; allowed 0 1 1 = 0; revoke 0 1 0 = 1; revokes 0 1 0 = 1
            turn 0 = 1; lay 0 1 0 = 0; revokes 0 1 1 = 1; won 0 0 0 = 1; won 0 1 0 = 1
            """);
    }

    private static void mustAllows() {
        Script.run("22 none of the colour led, but a trump: a trump or a joker", game(1) + """
            kind 0 13 2 = 0; kind 0 15 1 = 0; kind 0 11 1 = 0; deal 0 1 0 = 1
            give 0 0 0 = 1; give 0 0 15 = 2; give 0 1 13 = 1; give 0 1 11 = 2; give 0 1 5 = 3
            give 0 2 8 = 1; give 0 2 1 = 2; give 0 3 2 = 1; give 0 3 6 = 2
            allowed 0 1 2 = 0; forget = 3
            lay 0 0 0 = 0; allowed 0 1 0 = 0; allowed 0 1 1 = 0; allowed 0 1 2 = 2
            trace 0 = 22; trace 1 = 21; trace 2 = 22; trace 3 = 21; trace 7 = 21; trace 8 = -1
            allowed 0 2 0 = 0; allowed 0 2 1 = 1; allowed 0 3 0 = 0; allowed 0 3 1 = 0
            lay 0 1 2 = -16; finding 0 0 = 6; finding 0 3 = 2; lay 0 1 1 = 11; lay 0 2 0 = 8; lay 0 3 0 = 2
            winner 0 = 1; won 0 1 1 = 2
            # a joker is led
            lay 0 1 0 = 13; allowed 0 2 0 = 0; allowed 0 0 0 = 0; lay 0 2 0 = 1; lay 0 3 0 = 6; lay 0 0 0 = 15
            winner 0 = 1; won 0 1 1 = 4
            """);
        Script.run("22 with a trump led and none in the hand all may be laid; with a joker led rule 2 sleeps", game(1) + """
            kind 0 15 1 = 0; kind 0 11 1 = 0; kind 0 13 2 = 0; deal 0 1 0 = 1; give 0 0 15 = 1; give 0 0 13 = 2; give 0 1 5 = 1
            give 0 1 2 = 2; give 0 2 11 = 1; give 0 2 1 = 2; give 0 2 5 = -4
            lay 0 0 0 = 15; allowed 0 1 0 = 0; allowed 0 1 1 = 0; allowed 0 2 0 = 0; allowed 0 2 1 = 1
            undo 0 = 7; lay 0 0 1 = 13; allowed 0 2 1 = 0; allowed 0 2 0 = 0
            """);
    }

    private static void voidAllows() {
        Script.run("23 colour 3 is not led while there is another playable card", game(2) + """
            kind 0 0 3 = 0; kind 0 7 1 = 0; deal 0 1 0 = 1; give 0 0 3 = 1; give 0 0 0 = 2; give 0 0 11 = 3
            give 0 1 15 = 1; give 0 1 7 = 2; give 0 2 5 = 1; give 0 3 9 = 1; forget = 1
            # seat 0 has 3, 11 and a blank; seat 1 has 15 and a trump of suit 3
            allowed 0 0 0 = 0; allowed 0 0 2 = 0; trace 0 = 23; trace 1 = 21; trace 2 = 23; trace 3 = 21; trace 4 = -1
            allowed 0 1 0 = 3; allowed 0 1 1 = 0; allowed 0 0 1 = -15
            lay 0 0 0 = 3; allowed 0 1 0 = 0; allowed 0 1 1 = 1; lay 0 1 1 = -16; finding 0 3 = 1; lay 0 1 0 = 15
            lay 0 2 0 = 5; lay 0 3 0 = 9; winner 0 = 1; won 0 1 1 = -2
            lay 0 1 0 = 7; lay 0 0 1 = 11; winner 0 = 1; won 0 1 1 = -4; status 0 0 = 2; sum 0 1 = -2; sum 0 3 = -2
            tie 0 = 0
            """);
        Script.run("23 a joker in the hand is another playable card", game(2) + """
            kind 0 2 2 = 0; deal 0 1 0 = 1; give 0 0 3 = 1; give 0 0 2 = 2; allowed 0 0 0 = 3; allowed 0 0 1 = 0
            lay 0 0 0 = -16; lay 0 0 1 = 2; lay 0 0 0 = 3; won 0 0 1 = -1
            """);
    }

    private static void followWins() {
        Script.run("31 the first joker", game(0) + """
            kind 0 0 2 = 0; kind 0 12 2 = 0; kind 0 15 1 = 0; deal 0 1 0 = 1
            give 0 0 8 = 1; give 0 1 15 = 1; give 0 2 0 = 1; give 0 3 12 = 1
            lay 0 0 0 = 8; lay 0 1 0 = 15; lay 0 2 0 = 0; lay 0 3 0 = 12; winner 0 = 2
            """);
        Script.run("31 the trump of the greatest rank, the first of like ones", game(0) + """
            kind 0 9 1 = 0; kind 0 10 1 = 0; kind 0 7 1 = 0; deal 0 1 0 = 1
            give 0 0 12 = 1; give 0 1 7 = 1; give 0 2 10 = 1; give 0 3 9 = 1
            lay 0 0 0 = 12; lay 0 1 0 = 7; lay 0 2 0 = 10; lay 0 3 0 = 9; winner 0 = 2
            """);
        Script.run("31 without either that of the colour led of the greatest rank", game(0) + """
            deal 0 1 0 = 1; give 0 0 4 = 1; give 0 1 13 = 1; give 0 2 0 = 1; give 0 3 8 = 1
            lay 0 0 0 = 4; lay 0 1 0 = 13; lay 0 2 0 = 0; lay 0 3 0 = 8; winner 0 = 3; trace 5 = 31; trace 6 = 41
            """);
    }

    private static void voidWins() {
        Script.run("32 trumps and jokers do not count, but of the colour led", game(2) + """
            kind 0 1 2 = 0; kind 0 15 1 = 0; deal 0 1 0 = 1
            give 0 0 4 = 1; give 0 1 15 = 1; give 0 2 1 = 1; give 0 3 8 = 1; forget = 1
            lay 0 0 0 = 4; lay 0 1 0 = 15; lay 0 2 0 = 1; lay 0 3 0 = 8; winner 0 = 3; won 0 1 1 = -1
            trace 8 = 32; trace 9 = 43; trace 10 = 51; trace 11 = 51; trace 12 = -1
            """);
        Script.run("32 a joker that is led wins", game(2) + """
            kind 0 1 2 = 0; kind 0 2 2 = 0; deal 0 1 0 = 1; give 0 0 1 = 1; give 0 1 2 = 1; give 0 2 12 = 1
            lay 0 0 0 = 1; lay 0 1 0 = 2; lay 0 2 0 = 12; winner 0 = 0
            """);
        Script.run("32 of trumps, when one is led, the greatest rank, the first of like ones", game(2) + """
            kind 0 1 1 = 0; kind 0 4 1 = 0; kind 0 6 1 = 0; deal 0 1 0 = 1
            give 0 0 1 = 1; give 0 1 4 = 1; give 0 2 6 = 1; give 0 3 12 = 1
            lay 0 0 0 = 1; lay 0 1 0 = 4; lay 0 2 0 = 6; lay 0 3 0 = 12; winner 0 = 1
            """);
    }

    private static void auctionWins() {
        String hands = """
            give 0 0 12 = 1; give 0 1 13 = 1; give 0 2 1 = 1; give 0 3 7 = 1
            """;
        String lays = """
            lay 0 0 0 = 12; lay 0 1 0 = 13; lay 0 2 0 = 1; lay 0 3 0 = 7
            """;
        Script.run("33 without a main suit what 31 says", game(3) + "deal 0 1 0 = 1; forget = 1;" + hands + lays + """
            winner 0 = 0; won 0 0 1 = 1; trace 7 = 21; trace 8 = 33; trace 9 = 31; trace 10 = 44; trace 11 = 42
            trace 12 = 41; trace 13 = 52; trace 14 = 51; trace 15 = 52; trace 16 = 51; trace 17 = -1; forget = 17
            """);
        Script.run("33 the main suit wins", game(3) + "deal 0 1 0 = 1; forget = 1;" + hands + "bid 0 0 1 1 = 1;" + lays + """
            winner 0 = 1; won 0 1 1 = 2; trace 8 = 33; trace 9 = 44; trace 10 = 42; trace 11 = 41
            trace 12 = 52; trace 13 = 51; trace 14 = 52; trace 15 = 51; trace 16 = -1
            # the bidder's side has won none of 1: 10 less; the other side its points
            sum 0 0 = -5; sum 0 2 = -5; sum 0 1 = 1; sum 0 3 = 1
            """);
        Script.run("33 with a joker in it what 31 says", game(3) + "kind 0 7 2 = 0; deal 0 1 0 = 1; forget = 1;" + hands
            + "bid 0 0 1 1 = 1;" + lays + """
            winner 0 = 3; trace 8 = 33; trace 9 = 31; trace 10 = 44
            """);
        Script.run("33 trumps and the main suit are alike, the first of like ranks", game(3)
            + "kind 0 12 1 = 0; deal 0 1 0 = 1;" + hands + "bid 0 0 1 1 = 1;" + lays + """
            winner 0 = 0; won 0 0 1 = 2; sum 0 0 = 6
            """);
        Script.run("33 a greater rank of the main suit beats a trump, a lesser one does not", game(3)
            + "kind 0 7 1 = 0; deal 0 1 0 = 1;" + hands + "bid 0 0 1 1 = 1;" + lays + """
            winner 0 = 1; won 0 1 1 = 4; sum 0 1 = 2
            """);
        Script.run("33 none of either: what 31 says", game(3) + "deal 0 1 0 = 1;" + hands + "bid 0 0 1 2 = 1; forget = 1;"
            + lays + """
            winner 0 = 0; trace 8 = 33; trace 9 = 31; trace 10 = 44; won 0 0 1 = 1; sum 0 0 = 5
            """);
        Script.run("33 the latest bid tells the main suit", game(3) + "deal 0 1 0 = 1;" + hands
            + "bid 0 0 1 1 = 1; bid 0 1 2 3 = 1;" + lays + """
            winner 0 = 3; won 0 1 1 = 2; sum 0 1 = -5; sum 0 3 = -5; sum 0 0 = 0
            """);
    }

    private static void scores() {
        Script.run("42 trumps are counted", game(1) + """
            kind 0 13 1 = 0; kind 0 9 1 = 0; deal 0 1 0 = 1; give 0 0 12 = 1; give 0 1 13 = 1; give 0 2 1 = 1; give 0 3 9 = 1
            forget = 1; lay 0 0 0 = 12; lay 0 1 0 = 13; lay 0 2 0 = 1; lay 0 3 0 = 9; winner 0 = 1; won 0 1 1 = 3
            trace 8 = 31; trace 9 = 42; trace 10 = 41; trace 11 = 51; trace 12 = 51; trace 13 = -1; sum 0 1 = 1; sum 0 3 = 1
            """);
        Script.run("43 of suit 3, of any kind", game(2) + """
            kind 0 3 2 = 0; kind 0 7 1 = 0; deal 0 1 0 = 1; give 0 0 12 = 1; give 0 1 3 = 1; give 0 2 7 = 1; give 0 3 11 = 1
            lay 0 0 0 = 12; lay 0 1 0 = 3; lay 0 2 0 = 7; lay 0 3 0 = 11; winner 0 = 0; won 0 0 1 = -3; sum 0 0 = -1; sum 0 2 = -1
            """);
        Script.run("44 twice, if the card that won is of the main suit, of any kind", game(3) + """
            kind 0 13 1 = 0; kind 0 9 1 = 0; deal 0 1 0 = 1; give 0 0 12 = 1; give 0 1 13 = 1; give 0 2 1 = 1; give 0 3 9 = 1
            bid 0 1 1 1 = 1; lay 0 0 0 = 12; lay 0 1 0 = 13; lay 0 2 0 = 1; lay 0 3 0 = 9; winner 0 = 1; won 0 1 1 = 6
            sum 0 1 = 8; sum 0 3 = 8; tie 0 = 1
            """);
        Script.run("44 a joker of the main suit, too", game(3) + """
            kind 0 13 2 = 0; deal 0 1 0 = 1; give 0 0 12 = 1; give 0 1 13 = 1; bid 0 0 1 1 = 1
            lay 0 0 0 = 12; lay 0 1 0 = 13; won 0 1 1 = 2; sum 0 0 = -5; sum 0 1 = 1
            """);
    }

    private static void settles() {
        String lays = """
            give 0 0 12 = 1; give 0 0 8 = 2; give 0 1 13 = 1; give 0 1 9 = 2; give 0 2 1 = 1; give 0 2 2 = 2
            """;
        String won = """
            lay 0 0 0 = 12; lay 0 1 0 = 13; lay 0 2 0 = 1; lay 0 0 0 = 8; lay 0 1 0 = 9; lay 0 2 0 = 2
            won 0 0 0 = 2; won 0 0 1 = 4; won 0 1 0 = 0; status 0 0 = 2
            """;
        Script.run("52 a bid that is met: points and 10 n", game(3) + "deal 0 1 0 = 1;" + lays + "bid 0 0 2 0 = 1;" + won + """
            sum 0 0 = 12; sum 0 2 = 12; sum 0 1 = 0
            """);
        Script.run("52 doubled once", game(3) + "deal 0 1 0 = 1;" + lays + "bid 0 2 2 0 = 1; doubled 0 3 = 1;" + won + """
            sum 0 0 = 24; sum 0 2 = 24; sum 0 1 = 0
            """);
        Script.run("52 doubled twice", game(3) + "deal 0 1 0 = 1;" + lays + "bid 0 2 1 0 = 1; doubled 0 3 = 1; doubled 0 0 = 2;"
            + won + """
            sum 0 0 = 28; sum 0 2 = 28; sum 0 1 = 0
            """);
        Script.run("52 a bid that is not met, doubled twice; the other side's points, doubled", game(3) + "deal 0 1 0 = 1;" + lays
            + "bid 0 1 3 0 = 1; doubled 0 2 = 1; doubled 0 3 = 2;" + won + """
            sum 0 1 = -60; sum 0 3 = -60; sum 0 0 = 8; sum 0 2 = 8; tie 0 = 0
            """);
        Script.run("52 one below the bid", game(3) + "deal 0 1 0 = 1;" + lays + "bid 0 0 3 0 = 1; doubled 0 1 = 1;" + won + """
            sum 0 0 = -10; sum 0 2 = -10; sum 0 1 = 0
            """);
        Script.run("52 a share cut towards 0 of what is below 0", game(3) + """
            seat 0 2 false = 1; deal 0 1 0 = 1; give 0 0 0 = 1; give 0 1 4 = 1; bid 0 1 1 3 = 1; lay 0 0 0 = 0; lay 0 1 0 = 4
            won 0 1 1 = 1; sum 0 1 = 5; sum 0 3 = 5; sum 0 0 = 0; sum 0 2 = 0
            """);
    }

    private static void pairs() {
        Script.run("24 34 first, 45 53 second: an auction under a pair has no bids", """
            game 0 1 0 0 = 1; game 1 3 0 0 = 1; game 2 4 0 1 = 1; table 0 32 2 = 1; kind 0 13 1 = 0; deal 0 1 0 = 1; forget = 1
            trace 0 = -1; give 0 0 12 = 1; give 0 1 13 = 1; give 0 1 1 = 2; bid 0 0 1 1 = -4
            lay 0 0 0 = 12; lay 0 1 1 = -16; finding 0 3 = 2; lay 0 1 0 = 13; winner 0 = 1; won 0 1 1 = 3
            trace 0 = 24; trace 1 = 22; trace 2 = 21; trace 3 = 24; trace 6 = 24; trace 9 = 34; trace 10 = 31; trace 11 = 45
            trace 12 = 44; trace 13 = 42; trace 14 = 41; trace 15 = -1; lay 0 1 0 = 1; won 0 1 1 = 5
            trace 18 = 34; trace 24 = 53; trace 25 = 52; trace 26 = 51; trace 27 = 53; trace 30 = -1; sum 0 1 = 2; forget = 30
            """);
        Script.run("45 a void's score and 1", """
            game 0 0 0 0 = 1; game 1 2 0 0 = 1; game 2 4 0 1 = 1; game 3 4 1 0 = 1; table 0 16 2 = 1; table 1 16 3 = 1
            deal 0 1 0 = 1; give 0 0 3 = 1; give 0 0 0 = 2; give 0 1 7 = 1; lay 0 0 0 = 3; lay 0 1 0 = 7; won 0 1 1 = -1
            lay 0 0 0 = 0; won 0 0 1 = 1; sum 0 1 = 0; sum 0 0 = 0
            deal 1 1 0 = 2; give 1 0 3 = 1; give 1 0 0 = 2; lay 1 0 0 = -16; finding 0 3 = 3; lay 1 0 1 = 0; won 1 0 1 = 2
            """);
    }
}
