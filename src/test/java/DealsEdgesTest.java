/** Each sentence of 3 A DEAL and of promises 9 to 24 that names a boundary case. */
public final class DealsEdgesTest {
    private static final String TABLE = "game 0 0 0 0 = 1; table 0 16 0 = 1;";
    private static final String AUCTION = "game 0 3 0 0 = 1; table 0 16 0 = 1;";

    public static void main(String[] args) {
        mixing();
        dealing();
        firstTurns();
        dealRefusals();
        gifts();
        bids();
        doublings();
        tries();
        turns();
        tricks();
        ends();
        shares();
        revokes();
        looks();
        ties();
        Script.end();
    }

    private static String handsOf(int[] cards, int n) {
        StringBuilder text = new StringBuilder();
        for (int k = 0; k < 4 * n; k++) {
            text.append("hand 0 " + k / n + " " + k % n + " = " + cards[k] + ";");
        }
        return text.toString();
    }

    private static void mixing() {
        for (int seed : new int[] {0, -1, 1, Integer.MIN_VALUE, Integer.MAX_VALUE, -1013904223}) {
            for (int p : new int[] {4, 60}) {
                Script.run("MIXED: an int that wraps, from " + seed, "game 0 0 0 0 = 1; table 0 " + p + " 0 = 1; deal 0 "
                    + seed + " -1 = 1;"
                    + handsOf(Mixed.cards(p, seed), p / 4) + "left 0 4 = 0");
            }
        }
        String hands = handsOf(Mixed.cards(16, 5), 4);
        Script.run("all CARDS come to THE REST, by numbers: from a like seed comes a like DEAL, whatever was ahead", TABLE
            + "deal 0 9 0 = 1; give 0 2 3 = 1; give 0 0 9 = 1; lay 0 0 0 = 9; lay 0 2 0 = 3; seat 0 1 false = 1;"
            + "seat 0 1 true = 0; deal 0 5 4 = 2;"
            + hands + "undo 0 = 5; deal 0 5 -1 = 3;" + hands);
    }

    private static void dealing() {
        int[] cards = Mixed.cards(16, 3);
        Script.run("the taken SEATS, by numbers, get so many CARDS each; EMPTY ones are NOT DEALT", TABLE + """
            seat 0 0 false = 1; seat 0 2 false = 1; deal 0 3 4 = 1; left 0 0 = -1; left 0 2 = -1; left 0 1 = 4; left 0 3 = 4
            left 0 4 = 8
            hand 0 1 0 = A; hand 0 1 3 = B; hand 0 3 0 = C; hand 0 3 3 = D; turn 0 = 1; card 0 E = 0
            """.replace("A", "" + cards[0]).replace("B", "" + cards[3]).replace("C", "" + cards[4]).replace("D", "" + cards[7])
            .replace("E", "" + cards[8]));
        Script.run("deal(): of n CARDS a HAND (0 to SIZE; -1: SIZE)", TABLE + """
            deal 0 3 -2 = -3; deal 0 3 5 = -3; deal 0 3 2147483647 = -3; deal 0 3 -2147483648 = -3; status 0 0 = 0
            deal 0 3 0 = 1; left 0 0 = 0; left 0 3 = 0; left 0 4 = 16; hand 0 0 0 = -1; deal 0 3 1 = 2; left 0 0 = 1
            left 0 3 = 1; left 0 4 = 12
            undo 0 = 1; deal 0 3 4 = 3; left 0 0 = 4; left 0 3 = 4; left 0 4 = 0; undo 0 = 1; deal 0 3 -1 = 4; left 0 0 = 4
            left 0 4 = 0
            """);
        Script.run("a DEAL begins: no bid, not DOUBLED, no TRICKS, POINTS 0", AUCTION + """
            deal 0 1 0 = 1; give 0 0 0 = 1; give 0 1 5 = 1; give 0 1 4 = 2; bid 0 1 1 1 = 1; doubled 0 0 = 1; lay 0 0 0 = 0
            revoke 0 1 0 = 5; lay 0 1 0 = 4
            winner 0 = 1; revokes 0 1 0 = 1; revokes 0 1 1 = 1; won 0 0 0 = 1; won 0 0 1 = 2; won 0 1 0 = 1; status 0 3 = 2
            status 0 4 = 1
            deal 0 1 0 = 2; status 0 0 = 1; status 0 3 = 0; status 0 4 = 0; status 0 5 = -1; status 0 6 = -1; status 0 7 = 0
            winner 0 = -1
            won 0 0 0 = 0; won 0 0 1 = 0; won 0 0 2 = 0; won 0 1 0 = 0; won 0 1 1 = 0; won 0 1 2 = 0; revokes 0 1 0 = 0
            revokes 0 1 1 = 0; left 0 4 = 16
            """);
        Script.run("its NUMBER (1, 2, .. of all TABLES)", TABLE + """
            table 3 4 0 = 1; status 0 1 = 0; deal 3 1 0 = 1; deal 0 1 0 = 2; deal 3 1 0 = 3; status 3 1 = 3; status 0 1 = 2
            count 2 = 3
            table 3 4 0 = 1; status 3 1 = 0; count 2 = 3; deal 3 1 0 = 4
            """);
    }

    private static void firstTurns() {
        for (int first = 0; first < 4; first++) {
            StringBuilder text = new StringBuilder(TABLE + "kind 0 0 3 = 0; kind 0 1 3 = 0; kind 0 2 3 = 0;"
                + "kind 0 3 3 = 0; deal 0 1 0 = 1;");
            for (int s = 0; s < 4; s++) {
                text.append("give 0 " + s + " " + s + " = 1; turn 0 = -1;");
            }
            for (int s = 3; s >= first; s--) {
                text.append("give 0 " + s + " " + (s + 4) + " = 2; turn 0 = " + s + ";");
            }
            Script.run("give(): the TURN is the first SEAT's that can LAY: " + first, text + "give 0 3 12 = 3; turn 0 = "
                + first
                + "; deal 0 1 0 = -4");
        }
        Script.run("the TURN is nobody's, if there is none: HANDS of no places", TABLE + "deal 0 1 0 = 1; turn 0 = -1;"
            + "status 0 0 = 1");
        Script.run("the TURN is nobody's, if there is none: BLANKS alone", "game 0 0 0 0 = 1; table 0 4 0 = 1;" + """
            kind 0 0 3 = 0; kind 0 1 3 = 0; kind 0 2 3 = 0; kind 0 3 3 = 0; deal 0 1 1 = 1; turn 0 = -1; status 0 0 = 1
            left 0 2 = 1; deal 0 2 1 = 2; status 0 0 = 1
            """);
        int[] cards = Mixed.cards(4, 8);
        Script.run("the TURN is the first SEAT's that can LAY: the last one",
            "game 0 0 0 0 = 1; table 0 4 0 = 1; kind 0 A 3 = 0; kind 0 B 3 = 0; kind 0 C 3 = 0;"
            .replace("A", "" + cards[0]).replace("B", "" + cards[1]).replace("C", "" + cards[2])
                + "deal 0 8 1 = 1; turn 0 = 3; deal 0 8 1 = -4");
        Script.run("the TURN is the first SEAT's that can LAY: the first ones are EMPTY", TABLE
            + "seat 0 0 false = 1; seat 0 1 false = 1; deal 0 1 1 = 1; turn 0 = 2");
    }

    private static void dealRefusals() {
        Script.run("deal(): STATE: one is on in which somebody has the TURN; not one in which nobody has", TABLE + """
            deal 0 1 0 = 1; deal 0 1 0 = 2; deal 0 1 1 = 3; deal 0 1 0 = -4; deal 0 1 5 = -3; deal 1 1 5 = -2; count 2 = 3
            status 0 2 = 3; status 0 8 = 3
            """);
        Script.run("deal(): STATE: the MATCH has had its DEALS (those that began)", TABLE + """
            match 0 2 = 0; deal 0 1 0 = 1; deal 0 1 0 = 2; deal 0 1 0 = -4; deal 0 1 5 = -3; status 0 2 = 2; undo 0 = 1
            status 0 2 = 1; deal 0 1 0 = 3
            deal 0 1 0 = -4; give 0 0 0 = 1; lay 0 0 0 = 0; deal 0 1 0 = -4; match 0 1 = 2; deal 0 1 0 = 4; deal 0 1 0 = -4
            """);
        Script.run("deal(): one that has ENDED is not on", TABLE + "deal 0 1 0 = 1; give 0 0 0 = 1; lay 0 0 0 = 0;"
            + "status 0 0 = 2; deal 0 1 0 = 2");
    }

    private static void gifts() {
        Script.run("give(): OUTSIDE: the HAND has SIZE", TABLE + """
            deal 0 1 0 = 1; give 0 3 0 = 1; give 0 3 1 = 2; give 0 3 2 = 3; give 0 3 3 = 4; give 0 3 4 = -3; left 0 3 = 4
            left 0 4 = 12; give 0 2 4 = 1
            """);
        Script.run("give(): OUTSIDE: the HAND has SIZE, of a PAIR 1 at least", "game 0 0 0 0 = 1; game 1 4 0 0 = 1; table 0 4 1 = 1;" + """
            deal 0 1 0 = 1; give 0 0 3 = 1; give 0 0 2 = -3; give 0 1 2 = 1; give 0 2 1 = 1; give 0 3 0 = 1; left 0 4 = 0
            give 0 3 0 = -3
            """);
        Script.run("give(): UNKNOWN, OUTSIDE, STATE, the first that is so", TABLE + """
            deal 0 1 -1 = 1; give 1 0 0 = -2; give 0 4 0 = -2; give 0 0 16 = -2; give 0 0 -1 = -2; give 0 0 0 = -3
            lay 0 0 0 = CARD; give 0 0 0 = -4; give 0 1 0 = -3
            """.replace("CARD", "" + Mixed.cards(16, 1)[0]));
        Script.run("give(): STATE: no DEAL is on", TABLE + """
            give 0 0 0 = -4; deal 0 1 0 = 1; give 0 0 0 = 1; lay 0 0 0 = 0; status 0 0 = 2; give 0 0 1 = -4; undo 0 = 2
            undo 0 = 1; undo 0 = 0; give 0 0 0 = -4
            """);
        Script.run("give(): STATE: a CARD was laid in it; taken back, none was", TABLE + """
            deal 0 1 0 = 1; give 0 0 0 = 1; give 0 0 1 = 2; give 0 1 4 = 1; lay 0 0 0 = 0; give 0 2 2 = -4; lay 0 1 0 = 4
            status 0 3 = 1; trick 0 0 = -1
            give 0 2 2 = -4; undo 0 = 5; undo 0 = 4; give 0 2 2 = 1
            """);
        Script.run("give(): STATE: the SEAT is EMPTY, the CARD is not in THE REST", TABLE + """
            seat 0 3 false = 1; deal 0 1 0 = 1; give 0 3 0 = -4; give 0 0 0 = 1; give 0 1 0 = -4; give 0 0 0 = -4
            left 0 3 = -1; left 0 4 = 15
            """);
        Script.run("give(): all CARDS of the largest PACK", "game 0 0 0 0 = 1; table 0 60 0 = 1; deal 0 1 0 = 1;"
            + allGiven()
            + "left 0 4 = 0; left 0 0 = 15; left 0 3 = 15; give 0 0 0 = -3; turn 0 = 0");
    }

    private static String allGiven() {
        StringBuilder text = new StringBuilder();
        for (int c = 0; c < 60; c++) {
            text.append("give 0 " + c % 4 + " " + c + " = " + (c / 4 + 1) + ";");
        }
        return text.toString();
    }

    private static void bids() {
        Script.run("bid(): n TRICKS (1 to SIZE) in a SUIT", AUCTION + """
            deal 0 1 -1 = 1; bid 0 0 0 0 = -3; bid 0 0 -1 0 = -3; bid 0 0 5 0 = -3; bid 0 0 2147483647 0 = -3
            bid 0 0 1 -1 = -3; bid 0 0 1 4 = -3
            bid 0 0 1 2147483647 = -3; bid 0 0 -2147483648 -2147483648 = -3; status 0 4 = 0; bid 0 0 1 0 = 1; bid 0 0 4 3 = 1
            bid 0 0 4 4 = -3; bid 0 0 5 3 = -3
            """);
        Script.run("bid(): SIZE is that of the PACK, not of the HANDS", AUCTION + "deal 0 1 0 = 1; bid 0 0 4 0 = 1;"
            + "bid 0 0 5 0 = -3");
        Script.run("bid(): to SIZE of the least PACK and the largest", "game 0 3 0 0 = 1; table 0 4 0 = 1; table 1 60 0 = 1;" + """
            deal 0 1 0 = 1; deal 1 1 0 = 2; bid 0 0 2 0 = -3; bid 0 0 1 0 = 1; bid 1 0 16 0 = -3; bid 1 0 15 0 = 1
            bid 1 0 15 3 = 1; bid 1 0 15 3 = -4
            """);
        Script.run("bid(): it is not above the latest bid (by n, then by SUIT)", AUCTION + """
            deal 0 1 0 = 1; bid 0 0 2 2 = 1; bid 0 1 2 2 = -4; bid 0 1 2 1 = -4; bid 0 1 1 3 = -4; bid 0 1 2 3 = 1
            bid 0 2 2 3 = -4; bid 0 2 3 0 = 1
            bid 0 2 3 0 = -4; status 0 4 = 3; status 0 5 = 0; status 0 6 = 2; undo 0 = 3; bid 0 3 2 3 = -4; bid 0 3 3 0 = 1
            status 0 6 = 3
            """);
        Script.run("bid(): UNKNOWN, OUTSIDE, STATE, the first that is so", "game 0 0 0 0 = 1; game 1 3 0 0 = 1; table 0 16 0 = 1; table 1 16 1 = 1;" + """
            bid 2 0 0 9 = -2; bid 0 4 0 9 = -2; bid 0 0 0 0 = -3; bid 0 0 1 4 = -3; bid 0 0 1 0 = -4; bid 1 0 5 0 = -3
            bid 1 0 1 0 = -4
            """);
        for (int kind = 0; kind <= 2; kind++) {
            Script.run("bid(): STATE: the GAME is no AUCTION, but " + kind,
                "game 0 KIND 0 0 = 1; table 0 16 0 = 1; deal 0 1 0 = 1; bid 0 0 1 0 = -4; doubled 0 1 = -4"
                .replace("KIND", "" + kind));
        }
        Script.run("bid(): STATE: the GAME is no AUCTION, but a PAIR of them", "game 0 3 0 0 = 1; game 1 4 0 0 = 1; table 0 16 1 = 1;" + """
            deal 0 1 0 = 1; bid 0 0 1 0 = -4; bid 0 0 2 3 = -4; bid 0 0 3 0 = -3; status 0 4 = 0
            """);
        Script.run("bid(): STATE: no DEAL is on, a CARD was laid in it, the SEAT is EMPTY", AUCTION + """
            bid 0 0 1 0 = -4; seat 0 3 false = 1; deal 0 1 0 = 1; bid 0 3 1 0 = -4; give 0 0 0 = 1; give 0 0 1 = 2
            bid 0 0 1 0 = 1; lay 0 0 0 = 0
            trick 0 0 = -1; status 0 0 = 1; bid 0 0 1 1 = -4; lay 0 0 0 = 1; status 0 0 = 2; bid 0 0 1 1 = -4; status 0 4 = 1
            undo 0 = 5; bid 0 0 1 1 = -4
            undo 0 = 4; bid 0 0 1 1 = 1
            """);
    }

    private static void doublings() {
        Script.run("doubled(): there is no bid; of an earlier DEAL counts for nothing", AUCTION + """
            doubled 0 0 = -4; deal 0 1 0 = 1; doubled 0 0 = -4; doubled 0 1 = -4; bid 0 0 1 0 = 1; deal 0 1 0 = 2
            doubled 0 1 = -4
            """);
        Script.run("doubled(): the first time by the other SIDE, the second by the bidder's; no third time", AUCTION + """
            deal 0 1 0 = 1; bid 0 3 1 0 = 1; doubled 0 1 = -4; doubled 0 3 = -4; doubled 0 0 = 1; doubled 0 2 = -4
            doubled 0 0 = -4; doubled 0 1 = 2
            doubled 0 0 = -4; doubled 0 1 = -4; doubled 0 2 = -4; doubled 0 3 = -4; status 0 7 = 2; undo 0 = 3
            status 0 7 = 1; doubled 0 3 = 2
            """);
        Script.run("bid(): it is no more DOUBLED then", AUCTION + """
            deal 0 1 0 = 1; bid 0 0 1 0 = 1; doubled 0 1 = 1; doubled 0 0 = 2; bid 0 0 1 1 = 1; status 0 7 = 0
            doubled 0 0 = -4; doubled 0 3 = 1; bid 0 0 1 1 = -4; status 0 7 = 1
            """);
        Script.run("doubled(): it is EMPTY; a CARD was laid", AUCTION + """
            seat 0 1 false = 1; deal 0 1 0 = 1; give 0 0 0 = 1; give 0 2 4 = 1; bid 0 0 1 0 = 1; doubled 0 1 = -4
            doubled 0 4 = -2; doubled 0 -1 = -2
            lay 0 0 0 = 0; doubled 0 3 = -4; undo 0 = 4; doubled 0 3 = 1; lay 0 0 0 = 0; lay 0 2 0 = 4; status 0 0 = 2
            doubled 0 0 = -4
            """);
    }

    private static void tries() {
        Script.run("a TRY is each lay(), revoke() that is not refused", TABLE + """
            lay 0 0 0 = -4; revoke 0 0 0 = -4; count 0 = 0; deal 0 1 0 = 1; give 0 0 0 = 1; give 0 1 4 = 1; lay 0 4 0 = -2
            revoke 1 0 0 = -2; count 0 = 0
            lay 0 1 0 = -14; count 0 = 1; revoke 0 0 1 = -13; count 0 = 2; allowed 0 0 0 = 0; allowed 0 0 1 = -13
            count 0 = 2; lay 0 0 0 = 0; count 0 = 3
            revoke 0 1 0 = 4; count 0 = 4; lay 0 0 0 = -4; count 0 = 4; count 1 = 2
            """);
        Script.run("allowed(): the HAND's SEAT need not have the TURN", TABLE + """
            deal 0 1 0 = 1; give 0 0 0 = 1; give 0 3 1 = 1; give 0 3 4 = 2; allowed 0 3 0 = 0; lay 0 0 0 = 0
            allowed 0 3 0 = 1; allowed 0 3 1 = 0; allowed 0 0 0 = -13
            """);
        Script.run("lay(), revoke(), allowed(): UNKNOWN ahead of STATE", TABLE + """
            lay 1 0 0 = -2; lay 0 4 0 = -2; revoke 0 4 0 = -2; allowed 0 -1 0 = -2; lay 0 0 0 = -4; revoke 0 0 -1 = -4
            allowed 0 0 99 = -4
            """);
    }

    private static void turns() {
        Script.run("a CARD that is laid leaves its HAND (those behind it come forward)", TABLE + """
            deal 0 1 0 = 1; give 0 0 0 = 1; give 0 0 1 = 2; give 0 0 2 = 3; give 0 0 3 = 4; lay 0 0 1 = 1; hand 0 0 0 = 0
            hand 0 0 1 = 2; hand 0 0 2 = 3; hand 0 0 3 = -1
            lay 0 0 2 = 3; hand 0 0 0 = 0; hand 0 0 1 = 2; hand 0 0 2 = -1; lay 0 0 0 = 0; hand 0 0 0 = 2; lay 0 0 0 = 2
            hand 0 0 0 = -1; left 0 0 = 0
            """);
        Script.run("the TURN goes to the next SEAT (behind 3 comes 0) that has laid none to it", TABLE + """
            seat 0 1 false = 1; deal 0 1 0 = 1; give 0 0 0 = 1; give 0 0 1 = 2; give 0 2 4 = 1; give 0 2 5 = 2
            give 0 3 8 = 1; give 0 3 9 = 2
            turn 0 = 0; lay 0 0 0 = 0; turn 0 = 2; lay 0 2 0 = 4; turn 0 = 3; lay 0 3 0 = 8; turn 0 = 3; lay 0 3 0 = 9
            turn 0 = 0; lay 0 0 0 = 1; turn 0 = 2
            """);
        Script.run("the TURN passes SEATS that can not LAY: BLANKS alone, HANDS of no places", TABLE + """
            kind 0 1 3 = 0; deal 0 1 0 = 1; give 0 0 0 = 1; give 0 1 1 = 1; give 0 3 8 = 1; lay 0 0 0 = 0; turn 0 = 3
            lay 0 3 0 = 8; status 0 0 = 2
            """);
        Script.run("the TURN is the winner's, or the next one's that can LAY, around the table", TABLE + """
            kind 0 1 3 = 0; deal 0 1 0 = 1; give 0 0 4 = 1; give 0 0 9 = 2; give 0 1 8 = 1; give 0 1 1 = 2; give 0 3 0 = 1
            lay 0 0 0 = 4; lay 0 1 0 = 8; lay 0 3 0 = 0; winner 0 = 1; turn 0 = 0; lay 0 0 0 = 9; status 0 0 = 2; winner 0 = 0
            """);
    }

    private static void tricks() {
        Script.run("THE TRICK: a row, empty, of one to three, over with the fourth", TABLE + """
            deal 0 1 0 = 1; give 0 0 0 = 1; give 0 1 4 = 1; give 0 2 8 = 1; give 0 3 12 = 1; give 0 3 1 = 2; trick 0 -1 = -1
            trick 0 0 = -1; trick 0 2147483647 = -1
            lay 0 0 0 = 0; trick 0 0 = 0; trick 0 1 = -1; lay 0 1 0 = 4; trick 0 1 = 4; trick 0 2 = -1; lay 0 2 0 = 8
            trick 0 2 = 8; trick 0 3 = -1; trick 0 -1 = -1
            lay 0 3 0 = 12; trick 0 0 = -1; trick 0 3 = -1; trick 0 4 = -1; winner 0 = 3; won 0 1 2 = 4
            """);
        Script.run("THE TRICK is over with the first CARD, when nobody else can LAY", TABLE + """
            deal 0 1 0 = 1; give 0 3 0 = 1; give 0 3 1 = 2; lay 0 3 0 = 0; trick 0 0 = -1; status 0 3 = 1; winner 0 = 3
            turn 0 = 3; lay 0 3 0 = 1; status 0 3 = 2; status 0 0 = 2
            """);
        int[] cards = Mixed.cards(60, 2);
        StringBuilder longest = new StringBuilder("game 0 0 0 0 = 1; table 0 60 0 = 1; seat 0 1 false = 1;"
            + "seat 0 2 false = 1; seat 0 3 false = 1; deal 0 2 15 = 1;");
        for (int k = 0; k < 15; k++) {
            longest.append("lay 0 0 0 = " + cards[k] + "; won 0 0 0 = " + (k + 1) + ";");
        }
        Script.run("15 TRICKS, the most that a DEAL can have", longest + "status 0 0 = 2; status 0 3 = 15; won 0 0 1 = 15;"
            + "won 0 0 2 = 15; sum 0 0 = 15; left 0 4 = 45");
    }

    private static void ends() {
        Script.run("when nobody can, the DEAL has ENDED (BLANKS stay where they are)", TABLE + """
            kind 0 1 3 = 0; kind 0 2 3 = 0; kind 0 3 3 = 0; deal 0 1 0 = 1; give 0 0 1 = 1; give 0 0 0 = 2; give 0 0 2 = 3
            give 0 2 3 = 1; lay 0 0 1 = 0
            status 0 0 = 2; turn 0 = -1; left 0 0 = 2; hand 0 0 0 = 1; hand 0 0 1 = 2; hand 0 2 0 = 3; card 0 1 = 1
            card 0 3 = 3; won 0 0 2 = 1; trick 0 0 = -1
            """);
        Script.run("a DEAL of one CARD; what is looked at then is that of the latest DEAL", TABLE + """
            deal 0 1 0 = 1; give 0 1 0 = 1; lay 0 1 0 = 0; status 0 0 = 2; won 0 1 0 = 1; won 0 1 1 = 1; won 0 1 2 = 1
            winner 0 = 1; turn 0 = -1; status 0 1 = 1
            """);
    }

    private static void shares() {
        String void3 = "game 0 2 0 0 = 1; table 0 16 0 = 1;";
        Script.run("by how many SEATS of the SIDE are taken: two; cut towards 0", TABLE + """
            deal 0 1 0 = 1; give 0 0 0 = 1; lay 0 0 0 = 0; won 0 0 1 = 1; sum 0 0 = 0; sum 0 2 = 0; deal 0 1 0 = 2
            give 0 0 0 = 1; give 0 0 1 = 2; give 0 0 2 = 3
            lay 0 0 0 = 0; lay 0 0 0 = 1; lay 0 0 0 = 2; won 0 0 1 = 3; sum 0 0 = 1; sum 0 2 = 1; sum 0 1 = 0; count 1 = 0
            """);
        Script.run("cut towards 0, below 0", void3 + """
            deal 0 1 0 = 1; give 0 1 3 = 1; lay 0 1 0 = 3; won 0 1 1 = -1; sum 0 1 = 0; sum 0 3 = 0; deal 0 1 0 = 2
            give 0 1 3 = 1; give 0 1 7 = 2; give 0 1 11 = 3
            lay 0 1 0 = 3; lay 0 1 0 = 7; lay 0 1 0 = 11; won 0 1 1 = -3; sum 0 1 = -1; sum 0 3 = -1; sum 0 0 = 0; tie 0 = 0
            """);
        Script.run("one taken: all of it, to that SEAT alone", void3 + """
            seat 0 1 false = 1; deal 0 1 0 = 1; give 0 3 3 = 1; lay 0 3 0 = 3; sum 0 1 = 0; sum 0 3 = -1; count 1 = 0
            """);
        Script.run("FINDING 7, where none is taken; the call answers as ever", TABLE + """
            seat 0 1 false = 1; seat 0 3 false = 1; deal 0 1 0 = 1; give 0 0 0 = 1; give 0 2 4 = 1; lay 0 2 0 = -14
            lay 0 0 0 = 0; count 1 = 1; lay 0 2 0 = 4; count 1 = 2
            finding 1 0 = 7; finding 1 1 = 0; finding 1 2 = 1; finding 1 3 = 0; finding 1 4 = 3; sum 0 0 = 0; sum 0 1 = 0
            sum 0 3 = 0; status 0 0 = 2; status 0 8 = 5
            """);
        Script.run("FINDING 7 of SIDE 0, whose POINTS go nowhere", TABLE + """
            seat 0 0 false = 1; seat 0 2 false = 1; seat 0 1 false = 1; deal 0 1 0 = 1; give 0 3 0 = 1; revoke 0 3 0 = 0
            finding 0 0 = 7; finding 0 1 = 0; finding 0 2 = 0; finding 0 3 = 0; finding 0 4 = 1; count 1 = 1; sum 0 3 = 1
            sum 0 0 = 0; sum 0 2 = 0; sum 0 1 = 0; tie 0 = 1
            """);
        Script.run("FINDINGS 7 of both SIDES, when SEATS are all EMPTY; bodies of both come to the TRACE", TABLE + """
            seat 0 0 false = 1; seat 0 1 false = 1; seat 0 2 false = 1; seat 0 3 false = 1; deal 0 1 -1 = 1; forget = 1
            claim 0 1 1 = 0; count 1 = 0; claim 0 1 0 = 1
            count 1 = 2; finding 0 0 = 7; finding 0 2 = 0; finding 1 0 = 7; finding 1 2 = 1; finding 1 1 = 0; trace 0 = 51
            trace 1 = 51; trace 2 = -1; status 0 0 = 2
            """);
        Script.run("SUMS of SEATS stay, when these are EMPTY", TABLE + """
            seat 0 2 false = 1; deal 0 1 0 = 1; give 0 0 0 = 1; lay 0 0 0 = 0; sum 0 0 = 1; seat 0 0 false = 1; sum 0 0 = 1
            tie 0 = 0; seat 0 0 true = 0; sum 0 0 = 1
            """);
    }

    private static void revokes() {
        String revoked = TABLE + """
            deal 0 1 0 = 1; give 0 0 12 = 1; give 0 0 9 = 2; give 0 0 13 = 3; give 0 2 1 = 1; give 0 2 0 = 2; give 0 2 4 = 3
            lay 0 0 0 = 12; revoke 0 2 0 = 1; winner 0 = 0; revokes 0 2 0 = 1; revokes 0 2 1 = 0
            """;
        Script.run("FOUND in a later TRICK: ahead of that TRICK's end", revoked + """
            lay 0 0 0 = 9; won 0 0 0 = 1; lay 0 2 0 = 0; revokes 0 2 1 = 1; won 0 0 0 = 1; won 0 1 0 = 1; won 0 1 1 = 1
            card 0 12 = 7; card 0 1 = 7; card 0 9 = 6; card 0 0 = 6
            """);
        Script.run("FOUND once: a second CARD of the COLOUR finds no more", revoked + """
            lay 0 0 0 = 9; lay 0 2 0 = 0; lay 0 0 0 = 13; lay 0 2 0 = 4; revokes 0 2 0 = 1; revokes 0 2 1 = 1; won 0 0 0 = 2
            won 0 1 0 = 1; status 0 0 = 2
            """);
        Script.run("FOUND, taken back, and FOUND again", revoked + """
            lay 0 0 0 = 9; lay 0 2 0 = 0; revokes 0 2 1 = 1; won 0 1 0 = 1; undo 0 = 7; revokes 0 2 1 = 0; won 0 1 0 = 0
            won 0 0 0 = 1; card 0 12 = 6
            lay 0 2 0 = 0; revokes 0 2 1 = 1; won 0 1 0 = 1; won 0 0 0 = 1; card 0 12 = 7; card 0 1 = 7
            """);
        Script.run("its CARDS are the other SIDE's: the first CARD and the last", "game 0 0 0 0 = 1; table 0 60 0 = 1;" + """
            deal 0 1 0 = 1; give 0 0 0 = 1; give 0 0 1 = 2; give 0 2 59 = 1; give 0 2 4 = 2; lay 0 0 0 = 0; revoke 0 2 0 = 59
            won 0 0 2 = 2; lay 0 0 0 = 1; lay 0 2 0 = 4
            card 0 0 = 7; card 0 59 = 7; card 0 1 = 6; card 0 4 = 6; won 0 0 2 = 2; won 0 1 2 = 2
            """);
        Script.run("not FOUND by another SEAT's CARD of the COLOUR, nor in another COLOUR", TABLE + """
            deal 0 1 0 = 1; give 0 0 12 = 1; give 0 0 8 = 2; give 0 1 4 = 1; give 0 1 6 = 2; give 0 2 1 = 1; give 0 2 2 = 2
            give 0 2 0 = 3
            lay 0 0 0 = 12; lay 0 1 0 = 4; revoke 0 2 0 = 1; lay 0 0 0 = 8; lay 0 1 0 = 6; revokes 0 2 1 = 0
            revoke 0 2 0 = 2; revokes 0 2 0 = 2; revokes 0 2 1 = 0; won 0 0 0 = 2
            lay 0 2 0 = 0; revokes 0 2 1 = 1; status 0 0 = 2; won 0 0 0 = 2; won 0 1 0 = 1; card 0 12 = 7; card 0 8 = 6
            """);
        Script.run("not in the TRICK of the REVOKE itself", TABLE + """
            seat 0 3 false = 1; deal 0 1 0 = 1; give 0 0 12 = 1; give 0 2 1 = 1; give 0 2 0 = 2; lay 0 0 0 = 12
            revoke 0 2 0 = 1; revokes 0 2 1 = 0; lay 0 2 0 = 0; revokes 0 2 1 = 1
            """);
        Script.run("what is allowed, what RULE 2 bars is no REVOKE", "game 0 1 0 0 = 1; table 0 16 0 = 1; kind 0 15 1 = 0;" + """
            deal 0 1 0 = 1; give 0 0 12 = 1; give 0 0 8 = 2; give 0 1 15 = 1; give 0 1 5 = 2; give 0 2 4 = 1
            revoke 0 0 0 = 12; allowed 0 1 1 = 2; revoke 0 1 1 = 5
            revoke 0 2 0 = 4; revokes 0 0 0 = 0; revokes 0 1 0 = 0; revokes 0 2 0 = 0; count 1 = 0
            """);
        Script.run("its SCORE (as it was said): with TRUMPS", "game 0 1 0 0 = 1; table 0 16 0 = 1; kind 0 15 1 = 0; kind 0 10 1 = 0;" + """
            deal 0 1 0 = 1; give 0 0 12 = 1; give 0 0 9 = 2; give 0 1 10 = 1; give 0 2 15 = 1; give 0 2 0 = 2; lay 0 0 0 = 12
            lay 0 1 0 = 10; revoke 0 2 0 = 15
            winner 0 = 2; won 0 0 1 = 3; lay 0 2 0 = 0; won 0 0 1 = 0; won 0 1 1 = 3; won 0 1 0 = 1; won 0 1 2 = 3
            card 0 15 = 7; lay 0 0 0 = 9; won 0 0 1 = 1
            """);
        Script.run("its SCORE (as it was said): twice, of the MAIN SUIT", AUCTION + """
            deal 0 1 0 = 1; give 0 0 12 = 1; give 0 0 9 = 2; give 0 2 2 = 1; give 0 2 0 = 2; bid 0 0 2 2 = 1; lay 0 0 0 = 12
            revoke 0 2 0 = 2; winner 0 = 2; won 0 0 1 = 2
            lay 0 2 0 = 0; won 0 0 0 = 0; won 0 0 1 = 0; won 0 1 0 = 1; won 0 1 1 = 2; lay 0 0 0 = 9; won 0 0 0 = 1
            won 0 0 1 = 1; sum 0 0 = -5; sum 0 1 = 1
            """);
        Script.run("the SIDE that has not the TRICK loses none", TABLE + """
            deal 0 1 0 = 1; give 0 0 12 = 1; give 0 0 9 = 2; give 0 1 1 = 1; give 0 1 0 = 2; lay 0 0 0 = 12; revoke 0 1 0 = 1
            lay 0 0 0 = 9; lay 0 1 0 = 0
            revokes 0 1 0 = 1; revokes 0 1 1 = 1; won 0 0 0 = 2; won 0 1 0 = 0
            """);
        Script.run("of the latest DEAL alone", revoked + """
            lay 0 0 0 = 9; lay 0 2 0 = 0; lay 0 0 0 = 13; lay 0 2 0 = 4; deal 0 1 0 = 2; revokes 0 2 0 = 0; revokes 0 2 1 = 0
            give 0 2 0 = 1; lay 0 2 0 = 0; revokes 0 2 1 = 0
            """);
    }

    private static void looks() {
        Script.run("won(), revokes(): what is OUTSIDE; UNKNOWN goes ahead", TABLE + """
            won 0 0 -1 = -3; won 0 0 0 = 0; won 0 0 2 = 0; won 0 0 3 = -3; won 0 0 2147483647 = -3; won 0 0 -2147483648 = -3
            won 0 2 3 = -2; won 1 0 3 = -2
            revokes 0 0 -1 = -3; revokes 0 0 0 = 0; revokes 0 0 1 = 0; revokes 0 0 2 = -3; revokes 0 0 2147483647 = -3
            revokes 0 0 -2147483648 = -3; revokes 0 4 2 = -2
            """);
        Script.run("winner(): NONE until a TRICK of the DEAL is won", TABLE + """
            winner 0 = -1; deal 0 1 0 = 1; give 0 0 0 = 1; give 0 3 4 = 1; winner 0 = -1; lay 0 0 0 = 0; winner 0 = -1
            lay 0 3 0 = 4; winner 0 = 3; undo 0 = 4; winner 0 = -1
            """);
        Script.run("turn(): NONE", TABLE + "turn 0 = -1; deal 0 1 0 = 1; turn 0 = -1; give 0 3 0 = 1; turn 0 = 3;"
            + "lay 0 3 0 = 0; turn 0 = -1");
    }

    private static void ties() {
        Script.run("tie(): 0, 1 which is ahead, 2: alike; below 0, too", "game 0 2 0 0 = 1; table 0 16 0 = 1;" + """
            tie 0 = 2; seat 0 2 false = 1; seat 0 3 false = 1; deal 0 1 0 = 1; give 0 0 3 = 1; lay 0 0 0 = 3; sum 0 0 = -1
            tie 0 = 1
            deal 0 1 0 = 2; give 0 1 3 = 1; lay 0 1 0 = 3; sum 0 1 = -1; tie 0 = 2; deal 0 1 0 = 3; give 0 1 3 = 1
            lay 0 1 0 = 3; sum 0 1 = -2; tie 0 = 0
            """);
        Script.run("tie(): by the SUMS of both SEATS of a SIDE", TABLE + """
            seat 0 2 false = 1; seat 0 3 false = 1; deal 0 1 0 = 1; give 0 0 0 = 1; lay 0 0 0 = 0; tie 0 = 0
            seat 0 3 true = 0; seat 0 1 false = 1
            deal 0 1 0 = 2; give 0 3 0 = 1; lay 0 3 0 = 0; tie 0 = 2; sum 0 0 = 1; sum 0 3 = 1
            """);
    }
}
