/** Each sentence of 2 GAMES that names a boundary case. */
public final class GamesEdgesTest {
    public static void main(String[] args) {
        traceKept();
        ledAndMainSuit();
        sizes();
        sizeInTheTrace();
        allows21();
        allows22();
        allows23();
        wins();
        scores();
        settles();
        pairs();
        Script.end();
    }

    private static String game(int type) {
        return "game 0 " + type + " 0 0 = 1; table 0 16 0 = 1;";
    }

    private static void traceKept() {
        String on = game(0) + "deal 0 1 0 = 1; give 0 0 0 = 1;";
        Script.run("the TRACE: the latest 60 are kept: of 59", on + "allowed 0 0 0 = 0;".repeat(58) + """
            trace 0 = 11; trace 1 = 21; trace 58 = 21; trace 59 = -1; trace -1 = -1; forget = 59; trace 0 = -1; forget = 0
            """);
        Script.run("the TRACE: the latest 60 are kept: of 60", on + "allowed 0 0 0 = 0;".repeat(59) + """
            trace 0 = 11; trace 59 = 21; trace 60 = -1; forget = 60; trace 0 = -1
            """);
        Script.run("the TRACE: the latest 60 are kept: of 61", on + "allowed 0 0 0 = 0;".repeat(60) + """
            trace 0 = 21; trace 59 = 21; trace 60 = -1; trace 2147483647 = -1; trace -2147483648 = -1; forget = 61; trace 0 = -1
            """);
        Script.run("the TRACE: 60 again after forget()", on + "allowed 0 0 0 = 0;".repeat(30) + "forget = 31;"
            + "lay 0 0 0 = 0; forget = 5;"
            + "deal 0 1 0 = 2; give 0 1 0 = 1;" + "allowed 0 1 0 = 0;".repeat(60) + "trace 0 = 21; trace 59 = 21;"
            + "trace 60 = -1; forget = 61");
    }

    private static void ledAndMainSuit() {
        Script.run("LED is the COLOUR of the first CARD of THE TRICK, not of the latest", game(0) + """
            deal 0 1 0 = 1; give 0 0 0 = 1; give 0 1 5 = 1; give 0 2 1 = 1; give 0 2 4 = 2
            lay 0 0 0 = 0; lay 0 1 0 = 5; allowed 0 2 0 = 1; allowed 0 2 1 = 0
            """);
        String hands = game(3) + "deal 0 1 0 = 1; give 0 0 12 = 1; give 0 1 1 = 1; give 0 1 2 = 2;";
        Script.run("the MAIN SUIT (-1: none)", hands + """
            status 0 5 = -1; lay 0 0 0 = 12; lay 0 1 0 = 1; winner 0 = 0; won 0 0 1 = 1
            """);
        Script.run("the MAIN SUIT is that of the latest bid", hands + """
            bid 0 0 1 1 = 1; bid 0 0 1 2 = 1; status 0 5 = 2; lay 0 0 0 = 12; lay 0 1 0 = 1; winner 0 = 0; won 0 0 1 = 1
            """);
        Script.run("the MAIN SUIT of a bid that was taken back is none", hands + """
            bid 0 0 1 1 = 1; undo 0 = 4; status 0 5 = -1; lay 0 0 0 = 12; lay 0 1 0 = 1; winner 0 = 0
            """);
        Script.run("the MAIN SUIT: SUIT 0, too", game(3) + """
            deal 0 1 0 = 1; give 0 0 13 = 1; give 0 1 0 = 1; bid 0 0 1 0 = 1; lay 0 0 0 = 13; lay 0 1 0 = 0; winner 0 = 1
            won 0 1 1 = 2
            """);
        Script.run("the MAIN SUIT of an earlier DEAL is not that of the next", game(3) + """
            deal 0 1 0 = 1; give 0 0 13 = 1; bid 0 0 1 0 = 1; lay 0 0 0 = 13; deal 0 1 0 = 2; give 0 0 13 = 1; give 0 1 0 = 1
            lay 0 0 0 = 13; lay 0 1 0 = 0; winner 0 = 0
            """);
    }

    private static void sizes() {
        StringBuilder quarters = new StringBuilder("game 0 0 0 0 = 1; game 1 4 0 0 = 1;");
        StringBuilder eighths = new StringBuilder(quarters);
        for (int p = 4; p <= 60; p += 4) {
            quarters.append(sizeOf(p, 0, p / 4, p / 4));
            eighths.append(sizeOf(p, 1, Math.max(1, p / 8), p / 4));
        }
        Script.run("SIZE 11: p / 4", quarters.toString());
        Script.run("SIZE 12 PAIR: p / 8, 1 at least", eighths.toString());
        for (int kind = 1; kind <= 3; kind++) {
            Script.run("SIZE 11 of KIND " + kind, game(kind) + "deal 0 1 5 = -3; deal 0 1 4 = 1; left 0 3 = 4;"
                + "trace 0 = 11; trace 1 = -1");
        }
    }

    private static String sizeOf(int p, int g, int size, int number) {
        return "table 0 " + p + " " + g + " = 1; deal 0 1 " + (size + 1) + " = -3; deal 0 1 " + size + " = "
            + (2 * number - 1)
            + "; left 0 0 = " + size + "; left 0 3 = " + size + "; left 0 4 = " + (p - 4 * size) + "; table 0 " + p + " " + g
            + " = 1; deal 0 1 -1 = " + 2 * number + "; left 0 0 = " + size + "; left 0 4 = " + (p - 4 * size) + ";";
    }

    private static void sizeInTheTrace() {
        Script.run("only a deal() that is not refused, once: not one that is refused, give(), bid(), replay()", game(3) + """
            deal 0 1 5 = -3; deal 0 1 -2 = -3; trace 0 = -1; deal 0 1 -1 = 1; trace 0 = 11; trace 1 = -1; forget = 1
            deal 0 1 4 = -4; deal 0 1 5 = -3
            bid 0 0 4 0 = 1; bid 0 0 5 0 = -3; give 0 0 0 = -3; replay 0 = 1; undo 0 = 1; replay 0 = 1; trace 0 = -1
            undo 0 = 0; deal 0 1 0 = 2; trace 0 = 11; trace 1 = -1; give 0 0 0 = 1; replay 0 = 1; forget = 1
            """);
        Script.run("likewise 12 of a PAIR", "game 0 3 0 0 = 1; game 1 4 0 0 = 1; table 0 16 1 = 1;" + """
            deal 0 1 3 = -3; trace 0 = -1; deal 0 1 1 = 1; trace 0 = 12; trace 1 = -1; bid 0 0 2 0 = -4; bid 0 0 3 0 = -3
            give 0 0 CARD = 2
            give 0 0 CARD = -3; replay 0 = 1; forget = 1
            """.replace("CARD", "" + Mixed.cards(16, 1)[15]));
    }

    private static void allows21() {
        String hands = """
            kind 0 13 2 = 0; kind 0 14 2 = 0; kind 0 4 1 = 0; deal 0 1 0 = 1; give 0 0 14 = 1; give 0 0 0 = 2
            give 0 1 13 = 1; give 0 1 1 = 2; give 0 1 8 = 3; give 0 2 1 = -4; give 0 2 5 = 1; give 0 2 4 = 2
            """;
        Script.run("21: THE TRICK is empty", game(0) + hands + "allowed 0 0 0 = 0; allowed 0 0 1 = 0; allowed 0 1 1 = 0;"
            + "allowed 0 2 1 = 0");
        Script.run("21: c is a JOKER; c is of COLOUR LED; else RULE 1; the HAND has none of that", game(0) + hands + """
            lay 0 0 1 = 0; allowed 0 1 0 = 0; allowed 0 1 2 = 0; allowed 0 1 1 = 1; allowed 0 2 0 = 0; allowed 0 2 1 = 0
            """);
        Script.run("21: LED is 5", game(0) + hands + "lay 0 0 0 = 14; allowed 0 1 0 = 0; allowed 0 1 1 = 0;"
            + "allowed 0 1 2 = 0");
        Script.run("21: a TRUMP that is led", game(0) + """
            kind 0 0 1 = 0; kind 0 5 1 = 0; deal 0 1 0 = 1; give 0 0 0 = 1; give 0 1 4 = 1; give 0 1 5 = 2; give 0 2 8 = 1
            give 0 2 1 = 2
            lay 0 0 0 = 0; allowed 0 1 0 = 1; allowed 0 1 1 = 0; allowed 0 2 0 = 0; allowed 0 2 1 = 0
            """);
        Script.run("21: a BLANK of the SUIT LED does not bind the HAND", game(0) + """
            kind 0 4 3 = 0; deal 0 1 0 = 1; give 0 0 0 = 1; give 0 1 4 = 1; give 0 1 1 = 2; lay 0 0 0 = 0; allowed 0 1 1 = 0
            lay 0 1 1 = 1; winner 0 = 0
            """);
    }

    private static void allows22() {
        String hands = """
            kind 0 15 1 = 0; kind 0 14 2 = 0; kind 0 13 2 = 0; deal 0 1 0 = 1; give 0 0 13 = 1; give 0 0 0 = 2
            give 0 1 15 = 1; give 0 1 5 = 2; give 0 1 14 = 3; give 0 2 4 = 1; give 0 2 1 = 2; give 0 3 2 = 1; give 0 3 6 = 2
            """;
        Script.run("22: if 21 does not let c, RULE 1", game(1) + hands + "lay 0 0 1 = 0; allowed 0 2 1 = 1;"
            + "allowed 0 2 0 = 0");
        Script.run("22: RULE 2", game(1) + hands + "lay 0 0 1 = 0; allowed 0 1 1 = 2; lay 0 1 1 = -16; finding 0 3 = 2");
        Script.run("22: c is no JOKER", game(1) + hands + "lay 0 0 1 = 0; allowed 0 1 2 = 0; allowed 0 1 0 = 0");
        Script.run("22: THE TRICK is not empty", game(1) + hands + "allowed 0 1 1 = 0; allowed 0 1 0 = 0");
        Script.run("22: LED is not 5", game(1) + hands + "lay 0 0 0 = 13; allowed 0 1 1 = 0");
        Script.run("22: the HAND has none of COLOUR LED, and no TRUMP", game(1) + hands + "lay 0 0 1 = 0;"
            + "allowed 0 3 0 = 0; allowed 0 3 1 = 0");
        Script.run("22: the HAND has of COLOUR LED and a TRUMP", game(1) + """
            kind 0 15 1 = 0; deal 0 1 0 = 1; give 0 0 0 = 1; give 0 1 15 = 1; give 0 1 4 = 2; give 0 1 5 = 3; lay 0 0 0 = 0
            allowed 0 1 0 = 1; allowed 0 1 1 = 0; allowed 0 1 2 = 1
            """);
        Script.run("22: an AUCTION says it, too", game(3) + hands + """
            forget = 1; lay 0 0 1 = 0; allowed 0 1 1 = 2; trace 0 = 22; trace 1 = 21; trace 2 = 22; trace 3 = 21; trace 4 = -1
            """);
    }

    private static void allows23() {
        Script.run("23: THE TRICK is empty; c is of COLOUR 3; the HAND has a PLAYABLE CARD that is not", game(2) + """
            deal 0 1 0 = 1; give 0 0 3 = 1; give 0 0 0 = 2; give 0 1 7 = 1; give 0 1 2 = 2
            allowed 0 0 0 = 3; allowed 0 0 1 = 0; lay 0 0 0 = -16; finding 0 3 = 3; lay 0 0 1 = 0; allowed 0 1 0 = 0
            allowed 0 1 1 = 0
            """);
        Script.run("23: a PLAYABLE CARD that is not, at the first place or the last", game(2) + """
            deal 0 1 0 = 1; give 0 0 0 = 1; give 0 0 3 = 2; give 0 0 7 = 3; give 0 1 11 = 1; give 0 1 15 = 2; give 0 1 2 = 3
            allowed 0 0 0 = 0; allowed 0 0 1 = 3; allowed 0 0 2 = 3; allowed 0 1 0 = 3; allowed 0 1 1 = 3; allowed 0 1 2 = 0
            """);
        Script.run("23: all of COLOUR 3, and a BLANK", game(2) + """
            kind 0 0 3 = 0; deal 0 1 0 = 1; give 0 0 3 = 1; give 0 0 7 = 2; give 0 0 0 = 3; allowed 0 0 0 = 0
            allowed 0 0 1 = 0; lay 0 0 1 = 7
            """);
        Script.run("23: a TRUMP of SUIT 3 is not of COLOUR 3", game(2) + """
            kind 0 7 1 = 0; deal 0 1 0 = 1; give 0 0 3 = 1; give 0 0 7 = 2; allowed 0 0 0 = 3; allowed 0 0 1 = 0
            """);
        Script.run("23: what 21 bars is barred by RULE 1; RULE 2 is none of its", game(2) + """
            kind 0 15 1 = 0; deal 0 1 0 = 1; give 0 0 0 = 1; give 0 1 4 = 1; give 0 1 3 = 2; give 0 2 15 = 1; give 0 2 1 = 2
            lay 0 0 0 = 0; allowed 0 1 1 = 1; allowed 0 2 1 = 0
            """);
    }

    private static void wins() {
        String four = "give 0 0 0 = 1; give 0 1 5 = 1; give 0 2 6 = 1; give 0 3 4 = 1;";
        String laid = "lay 0 0 0 = 0; lay 0 1 0 = 5; lay 0 2 0 = 6; lay 0 3 0 = 4;";
        Script.run("31: of COLOUR LED alone", game(0) + "deal 0 1 0 = 1;" + four + laid + "winner 0 = 3");
        Script.run("31: TRUMPS of like RANKS, the first", game(0) + "kind 0 5 1 = 0; kind 0 6 1 = 0; deal 0 1 0 = 1;"
            + four + laid + "winner 0 = 1");
        Script.run("31: the first JOKER, not the one of the greatest RANK", game(0) + "kind 0 0 2 = 0; kind 0 4 2 = 0;"
            + "deal 0 1 0 = 1;"
            + four + laid + "winner 0 = 0");
        Script.run("31: the last CARD, a JOKER, ahead of TRUMPS", game(0) + "kind 0 5 1 = 0; kind 0 4 2 = 0;"
            + "deal 0 1 0 = 1;" + four + laid
            + "winner 0 = 3");
        Script.run("31: a TRICK of one CARD", game(0) + "deal 0 1 0 = 1; give 0 2 3 = 1; lay 0 2 0 = 3; winner 0 = 2;"
            + "won 0 0 2 = 1");
        Script.run("32: the first one if LED is 5", game(2) + "kind 0 0 2 = 0; kind 0 4 2 = 0; kind 0 5 1 = 0;"
            + "deal 0 1 0 = 1;" + four + laid
            + "winner 0 = 0");
        Script.run("32: a later JOKER or TRUMP does not win", game(2) + "kind 0 4 2 = 0; kind 0 5 1 = 0; deal 0 1 0 = 1;"
            + four + laid
            + "winner 0 = 0");
        Script.run("33: like RANKS of a TRUMP and the MAIN SUIT, the first", game(3) + "kind 0 6 1 = 0; deal 0 1 0 = 1;"
            + four
            + "bid 0 0 1 1 = 1;" + laid + "winner 0 = 1");
        Script.run("33: like RANKS of the MAIN SUIT and a TRUMP, the first", game(3) + "kind 0 5 1 = 0; deal 0 1 0 = 1;"
            + four
            + "bid 0 0 1 2 = 1;" + laid + "winner 0 = 1");
        Script.run("33: the MAIN SUIT that is a JOKER counts as what 31 says", game(3) + "kind 0 5 2 = 0; kind 0 6 1 = 0;"
            + "deal 0 1 0 = 1;" + four
            + "bid 0 0 1 1 = 1; forget = 1;" + laid + "winner 0 = 1; trace 8 = 33; trace 9 = 31");
        Script.run("33: a CARD of the MAIN SUIT that is a TRUMP", game(3) + "kind 0 5 1 = 0; deal 0 1 0 = 1;" + four
            + "bid 0 0 1 1 = 1;" + laid + "winner 0 = 1; won 0 1 1 = 4");
        Script.run("33: without one what 31 says", game(3) + "deal 0 1 0 = 1;" + four + "bid 0 0 1 3 = 1; forget = 1;" + laid
            + "winner 0 = 3; trace 8 = 33; trace 9 = 31; won 0 1 1 = 1");
    }

    private static void scores() {
        String four = "give 0 0 0 = 1; give 0 1 5 = 1; give 0 2 6 = 1; give 0 3 7 = 1;";
        String laid = "lay 0 0 0 = 0; lay 0 1 0 = 5; lay 0 2 0 = 6; lay 0 3 0 = 7;";
        Script.run("41: 1, whatever is in it", game(0) + "kind 0 5 1 = 0; kind 0 6 1 = 0; deal 0 1 0 = 1;" + four + laid
            + "won 0 1 1 = 1");
        Script.run("42: no TRUMP", game(1) + "deal 0 1 0 = 1;" + four + laid + "won 0 0 1 = 1");
        Script.run("42: all of them TRUMPS", game(1) + "kind 0 0 1 = 0; kind 0 5 1 = 0; kind 0 6 1 = 0; kind 0 7 1 = 0;"
            + "deal 0 1 0 = 1;" + four + laid
            + "won 0 1 1 = 5; winner 0 = 1");
        Script.run("42: a JOKER is no TRUMP", game(1) + "kind 0 5 2 = 0; deal 0 1 0 = 1;" + four + laid + "won 0 1 1 = 1");
        Script.run("43: none of SUIT 3", game(2) + "deal 0 1 0 = 1; give 0 0 0 = 1; give 0 1 5 = 1; lay 0 0 0 = 0;"
            + "lay 0 1 0 = 5; won 0 0 1 = 0; sum 0 0 = 0");
        Script.run("43: four of SUIT 3, one of each KIND that can be laid", game(2) + """
            kind 0 7 1 = 0; kind 0 11 2 = 0; deal 0 1 0 = 1; give 0 0 3 = 1; give 0 1 7 = 1; give 0 2 11 = 1; give 0 3 15 = 1
            lay 0 0 0 = 3; lay 0 1 0 = 7; lay 0 2 0 = 11; lay 0 3 0 = 15; winner 0 = 3; won 0 1 1 = -4; sum 0 1 = -2; sum 0 3 = -2
            """);
        Script.run("44: without a bid it is not twice", game(3) + "deal 0 1 0 = 1;" + four + laid + "winner 0 = 0;"
            + "won 0 0 1 = 1");
        Script.run("44: the CARD that won is of another SUIT", game(3) + "kind 0 6 1 = 0; deal 0 1 0 = 1;" + four
            + "bid 0 0 1 3 = 1;" + laid
            + "winner 0 = 2; won 0 0 1 = 2");
        Script.run("44: a JOKER of the MAIN SUIT", game(3) + "kind 0 6 2 = 0; deal 0 1 0 = 1;" + four
            + "bid 0 0 1 2 = 1;" + laid
            + "winner 0 = 2; won 0 0 1 = 2");
        Script.run("44: a TRUMP of the MAIN SUIT", game(3) + "kind 0 6 1 = 0; deal 0 1 0 = 1;" + four
            + "bid 0 0 1 2 = 1;" + laid
            + "winner 0 = 2; won 0 0 1 = 4");
    }

    /** Seat 0 has the best four cards, so that side 0 may claim any number of the four tricks. */
    private static String claimed(String bids, int n) {
        return game(3) + """
            deal 0 1 0 = 1; give 0 0 12 = 1; give 0 0 13 = 2; give 0 0 14 = 3; give 0 0 15 = 4; give 0 1 0 = 1; give 0 1 1 = 2
            """ + bids + "claim 0 0 " + n + " = 1; won 0 0 1 = " + n + "; won 0 1 1 = " + (4 - n) + ";";
    }

    private static String sums(int side0, int side1) {
        return "sum 0 0 = S; sum 0 2 = S; sum 0 1 = E; sum 0 3 = E".replace("S", "" + side0).replace("E", "" + side1);
    }

    private static void settles() {
        String once = "bid 0 0 4 0 = 1; doubled 0 3 = 1;";
        String twice = once + "doubled 0 2 = 2;";
        Script.run("52: without a bid", claimed("", 4) + sums(2, 0));
        Script.run("52: m is n", claimed("bid 0 0 4 0 = 1;", 4) + sums(22, 0));
        Script.run("52: m is n, DOUBLED once", claimed(once, 4) + sums(44, 0));
        Script.run("52: m is n, DOUBLED twice", claimed(twice, 4) + sums(88, 0));
        Script.run("52: m is n less 1", claimed("bid 0 0 4 0 = 1;", 3) + sums(-5, 0));
        Script.run("52: m is n less 1, DOUBLED once", claimed(once, 3) + sums(-10, 1));
        Script.run("52: m is n less 1, DOUBLED twice", claimed(twice, 3) + sums(-20, 2));
        Script.run("52: m is 0", claimed(twice, 0) + sums(-80, 8));
        Script.run("52: m is more than n", claimed("bid 0 2 1 0 = 1;", 4) + sums(7, 0));
        Script.run("52: the bidder's SIDE is SIDE 1", claimed("bid 0 3 2 0 = 1; doubled 0 2 = 1;", 2) + sums(2, 22));
        Script.run("52: SIDE 1 below", claimed("bid 0 1 3 0 = 1;", 2) + sums(1, -5));
    }

    private static void pairs() {
        Script.run("24, 34: its first GAME; 45, 53: its second one and 1", """
            game 0 2 0 0 = 1; game 1 1 0 0 = 1; game 2 4 0 1 = 1; table 0 32 2 = 1; kind 0 15 1 = 0; deal 0 1 0 = 1
            give 0 0 3 = 1; give 0 0 0 = 2; give 0 1 15 = 1; give 0 1 5 = 2; allowed 0 0 0 = 3; lay 0 0 1 = 0; allowed 0 1 1 = 0
            lay 0 1 0 = 15; winner 0 = 0; won 0 0 1 = 3
            """);
        Script.run("53: an AUCTION's second GAME without a bid", """
            game 0 3 0 0 = 1; game 1 4 0 0 = 1; table 0 32 1 = 1; deal 0 1 0 = 1; give 0 0 0 = 1; forget = 1; lay 0 0 0 = 0
            trace 0 = 24; trace 1 = 22; trace 2 = 21; trace 3 = 34; trace 4 = 33; trace 5 = 31; trace 6 = 45; trace 7 = 44
            trace 8 = 42; trace 9 = 41
            trace 10 = 53; trace 11 = 52; trace 12 = 51; trace 13 = 53; trace 14 = 52; trace 15 = 51; trace 16 = -1
            won 0 0 1 = 2; sum 0 0 = 1; sum 0 2 = 1
            """);
    }
}
