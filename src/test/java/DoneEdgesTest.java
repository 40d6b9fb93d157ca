/** Each sentence of 5 TAKEN BACK and of promises 29 to 36 that names a boundary case. */
public final class DoneEdgesTest {
    private static final String TABLE = "game 0 0 0 0 = 1; table 0 16 0 = 1;";
    private static final String AUCTION = "game 0 3 0 0 = 1; table 0 60 0 = 1;";

    public static void main(String[] args) {
        keptCalls();
        notKept();
        allOfIt();
        stays();
        keptAround();
        playedOver();
        playedOverEach();
        playedOverHundred();
        playedOverNow();
        digests();
        looks();
        Script.end();
    }

    private static void keptCalls() {
        Script.run("STATE: none", TABLE + "undo 0 = -4; status 0 8 = 0; deal 0 1 0 = 1; status 0 8 = 1; undo 0 = 0;"
            + "undo 0 = -4; undo 1 = -2; status 0 8 = 0");
        String seven = TABLE + "deal 0 1 0 = 1; give 0 0 0 = 1; give 0 0 1 = 2; give 0 0 2 = 3; give 0 1 4 = 1;"
            + "give 0 1 5 = 2; give 0 1 6 = 3;";
        String back = "undo 0 = 6; undo 0 = 5; undo 0 = 4; undo 0 = 3; undo 0 = 2; undo 0 = 1; undo 0 = 0;";
        Script.run("8 at most are kept: of 7", seven + "status 0 8 = 7;" + back + "undo 0 = -4; status 0 0 = 0;"
            + "left 0 0 = -1");
        Script.run("8 at most are kept: of 8", seven + "give 0 2 8 = 1; status 0 8 = 8; undo 0 = 7;" + back
            + "undo 0 = -4; status 0 0 = 0");
        Script.run("8 at most are kept: of 9", seven + "give 0 2 8 = 1; give 0 2 9 = 2; status 0 8 = 8; undo 0 = 7;"
            + "left 0 2 = 1; left 0 0 = 3;" + back
            + "undo 0 = -4; status 0 0 = 1; status 0 1 = 1; left 0 0 = 0; left 0 4 = 16; turn 0 = -1");
        Script.run("8 at most are kept: of each TABLE", seven + "table 3 8 0 = 1; deal 3 1 0 = 2; give 0 2 8 = 1;"
            + "status 0 8 = 8; status 3 8 = 1; undo 3 = 0; status 0 8 = 8;"
            + "undo 3 = -4; undo 0 = 7; status 3 0 = 0; status 0 0 = 1");
    }

    private static void notKept() {
        Script.run("game, seat, kind, match and what only looks are not taken back by themselves", TABLE + """
            deal 0 1 0 = 1; give 0 0 0 = 1; lay 0 0 0 = 0; status 0 8 = 3; game 1 1 0 0 = 1; seat 0 1 false = 1
            kind 0 5 1 = 0; match 0 9 = 1; replay 0 = 1; digest 0 = DIGEST
            status 0 8 = 3; undo 0 = 2; kindOf 1 = 1
            """.replace("DIGEST", "" + digestOf(0, -1, 0, 0, 0, 1, 1, 0, 0, 0, 0, 0, 0, -1)));
        Script.run("a play that meets a FINDING is not; one that ends a DEAL with FINDING 7 is", TABLE + """
            seat 0 1 false = 1; seat 0 3 false = 1; deal 0 1 0 = 1; give 0 0 0 = 1; lay 0 1 0 = -11; lay 0 2 0 = -13
            status 0 8 = 2; lay 0 0 0 = 0; finding 2 0 = 7
            status 0 8 = 3; undo 0 = 2; status 0 0 = 1; lay 0 0 0 = 0; count 1 = 4; replay 0 = 1
            """);
        Script.run("a claim that is wrong is not", TABLE + "deal 0 1 0 = 1; give 0 0 0 = 1; claim 0 1 1 = 0;"
            + "status 0 8 = 2; claim 0 0 1 = 1; status 0 8 = 3; undo 0 = 2; status 0 0 = 1");
        Script.run("table() keeps none", TABLE + "deal 0 1 0 = 1; give 0 0 0 = 1; table 0 8 0 = 1; status 0 8 = 0;"
            + "undo 0 = -4; deal 0 1 0 = 2; undo 0 = 0; left 0 4 = 8; undo 0 = -4");
        Script.run("table() that is refused keeps what is kept", TABLE + "deal 0 1 0 = 1; give 0 0 0 = 1;"
            + "table 0 9 0 = -3; table 0 8 5 = -2; status 0 8 = 2; undo 0 = 1; left 0 0 = 0");
    }

    private static void allOfIt() {
        Script.run("all of it: SEATS", TABLE + """
            deal 0 1 0 = 1; give 0 0 0 = 1; lay 0 0 0 = 0; seat 0 1 false = 1; seat 0 2 false = 1; undo 0 = 2; lay 0 0 0 = 0
            seat 0 1 true = 1; seat 0 2 true = 1; left 0 1 = 0
            """);
        Script.run("all of it: THE TRICK, and who laid what to it", TABLE + """
            deal 0 1 0 = 1; give 0 0 0 = 1; give 0 1 12 = 1; give 0 1 1 = 2; give 0 2 4 = 1; give 0 3 8 = 1; lay 0 0 0 = 0
            lay 0 1 0 = 12; lay 0 2 0 = 4; lay 0 3 0 = 8; winner 0 = 1
            undo 0 = 7; trick 0 0 = 0; trick 0 1 = 12; trick 0 2 = 4; trick 0 3 = -1; turn 0 = 3; lay 0 3 0 = 8; winner 0 = 1
            turn 0 = 1; undo 0 = 7; undo 0 = 6; undo 0 = 5; turn 0 = 1
            lay 0 1 0 = 12; turn 0 = 2; lay 0 2 0 = 4; lay 0 3 0 = 8; winner 0 = 1; won 0 1 2 = 4
            """);
        Script.run("all of it: KINDS", TABLE + """
            kind 0 9 1 = 0; deal 0 1 0 = 1; kind 0 9 2 = 1; kind 0 8 3 = 0; undo 0 = 0; kind 0 9 0 = 1; kind 0 8 0 = 0
            """);
        Script.run("all of it: SUMS, the MATCH", TABLE + """
            match 0 2 = 0; seat 0 2 false = 1; deal 0 1 0 = 1; give 0 0 0 = 1; lay 0 0 0 = 0; sum 0 0 = 1; match 0 1 = 1
            sum 0 0 = 0; status 0 2 = 0
            deal 0 1 0 = 2; deal 0 1 0 = -4; undo 0 = 3; status 0 2 = 0; undo 0 = 2; sum 0 0 = 0; status 0 2 = 1
            lay 0 0 0 = 0; sum 0 0 = 1; deal 0 1 0 = 3; deal 0 1 0 = -4
            """);
        Script.run("all of it: the DEAL ahead, with its NUMBER, bid, TRICKS, winner", AUCTION + """
            deal 0 1 0 = 1; give 0 0 0 = 1; give 0 1 4 = 1; bid 0 1 1 2 = 1; doubled 0 0 = 1; lay 0 0 0 = 0; lay 0 1 0 = 4
            deal 0 1 -1 = 2; undo 0 = 7
            status 0 0 = 2; status 0 1 = 1; status 0 2 = 1; status 0 3 = 1; status 0 4 = 1; status 0 5 = 2; status 0 6 = 1
            status 0 7 = 1; winner 0 = 1; won 0 1 2 = 2; left 0 0 = 0
            left 0 4 = 58; sum 0 1 = 11; replay 0 = 1
            """);
    }

    private static void stays() {
        Script.run("but not NUMBERS (the latest of all TABLES), TRIES, FINDINGS, the TRACE", TABLE + """
            deal 0 1 0 = 1; give 0 0 0 = 1; lay 0 3 0 = -13; lay 0 0 0 = 0; undo 0 = 2; undo 0 = 1; undo 0 = 0; count 0 = 2
            count 1 = 1; count 2 = 1; finding 0 0 = 3; finding 0 4 = 1
            trace 0 = 11; trace 1 = 21; trace 2 = 31; trace 3 = 41; trace 4 = 51; trace 5 = 51; trace 6 = -1; deal 0 1 0 = 2
            forget = 7
            """);
    }

    private static void keptAround() {
        StringBuilder text = new StringBuilder("game 0 0 0 0 = 1; table 0 60 0 = 1; deal 0 1 0 = 1;");
        for (int c = 0; c < 20; c++) {
            text.append("give 0 " + c / 10 + " " + c + " = " + (c % 10 + 1) + ";");
        }
        text.append("undo 0 = 7; undo 0 = 6; undo 0 = 5; left 0 1 = 7; left 0 4 = 43; give 0 2 30 = 1; status 0 8 = 6;"
            + "give 0 2 31 = 2; give 0 2 32 = 3; status 0 8 = 8;");
        text.append("undo 0 = 7; undo 0 = 6; undo 0 = 5; left 0 2 = 0; left 0 1 = 7; undo 0 = 4; undo 0 = 3; undo 0 = 2;"
            + "undo 0 = 1; undo 0 = 0; undo 0 = -4; left 0 1 = 2; left 0 4 = 48");
        Script.run("8 at most are kept: round and round", text.toString());
    }

    private static void playedOver() {
        Script.run("replay(): STATE: there was none; UNKNOWN", TABLE + "replay 0 = -4; replay 1 = -2; deal 0 1 0 = 1;"
            + "replay 0 = 1; undo 0 = 0; replay 0 = -4; deal 0 1 0 = 2; table 0 8 0 = 1; replay 0 = -4");
        Script.run("replay(): with no call but the deal()", TABLE + "deal 0 5 -1 = 1; replay 0 = 1; left 0 4 = 0");
        Script.run("replay(): calls that were refused, met a FINDING, were taken back are not among them", "game 0 3 0 0 = 1; table 0 16 0 = 1;" + """
            deal 0 5 0 = 1; give 0 0 0 = 1; give 0 0 0 = -4; give 0 1 4 = 1; give 0 1 5 = 2; give 0 2 8 = 1; undo 0 = 4
            bid 0 1 1 0 = 1; bid 0 1 1 0 = -4; doubled 0 0 = 1
            doubled 0 0 = -4; lay 0 1 0 = -14; lay 0 0 0 = 0; lay 0 1 1 = -16; revoke 0 1 1 = 5; undo 0 = 7; replay 0 = 1
            lay 0 1 0 = 4; replay 0 = 1; won 0 1 0 = 1; lay 0 1 0 = 5
            replay 0 = 1; status 0 0 = 2; undo 0 = 7; replay 0 = 1
            """);
        Script.run("replay(): nothing changes by it", TABLE + """
            deal 0 1 0 = 1; give 0 0 0 = 1; give 0 1 4 = 1; lay 0 0 0 = 0; forget = 2; replay 0 = 1; replay 0 = 1; forget = 0
            count 0 = 1; count 1 = 0; count 2 = 1; status 0 2 = 1
            status 0 8 = 4; trick 0 0 = 0; turn 0 = 1; left 0 1 = 1; lay 0 1 0 = 4; sum 0 1 = 0; replay 0 = 1; winner 0 = 1
            """);
    }

    private static void playedOverEach() {
        for (int suit = 0; suit < 4; suit++) {
            // Each seat lays a card of a suit of its own, so that the bid alone tells who wins.
            Script.run("replay(): a bid of SUIT " + suit, "game 0 3 0 0 = 1; table 0 16 0 = 1;" + """
                deal 0 1 0 = 1; give 0 0 0 = 1; give 0 0 4 = 2; give 0 1 1 = 1; give 0 1 5 = 2; give 0 2 2 = 1
                give 0 2 6 = 2; give 0 3 3 = 1; give 0 3 7 = 2; bid 0 0 1 SUIT = 1
                lay 0 0 0 = 0; lay 0 1 0 = 1; lay 0 2 0 = 2; lay 0 3 0 = 3; winner 0 = SUIT; turn 0 = SUIT; won 0 SIDE 1 = 2
                replay 0 = 1
                """.replace("SUIT", "" + suit).replace("SIDE", "" + suit % 2));
        }
        Script.run("replay(): doublings by SEATS that have the TURN", "game 0 3 0 0 = 1; table 0 16 0 = 1;" + """
            seat 0 0 false = 1; deal 0 1 0 = 1; give 0 1 0 = 1; give 0 1 1 = 2; give 0 2 4 = 1; bid 0 2 1 0 = 1
            doubled 0 1 = 1; replay 0 = 1
            doubled 0 2 = 2; replay 0 = 1; lay 0 1 0 = 0; lay 0 2 0 = 4; replay 0 = 1; lay 0 1 0 = 1; status 0 0 = 2; replay 0 = 1
            """);
        for (int side = 0; side < 2; side++) {
            Script.run("replay(): a claim of SIDE " + side, TABLE + """
                deal 0 1 0 = 1; give 0 SIDE 12 = 1; give 0 SIDE 8 = 2; give 0 OTHER 0 = 1; give 0 OTHER 4 = 2
                best 0 SIDE = 2; claim 0 SIDE 2 = 1; won 0 SIDE 0 = 2; won 0 SIDE 2 = 4; won 0 OTHER 0 = 0; replay 0 = 1
                """.replace("SIDE", "" + side).replace("OTHER", "" + (1 - side)));
            Script.run("replay(): a claim of SIDE " + side + " that was wrong", TABLE + """
                deal 0 1 0 = 1; give 0 0 12 = 1; give 0 0 1 = 2; give 0 1 8 = 1; give 0 1 13 = 2; claim 0 SIDE 2 = 0
                replay 0 = 1; lay 0 0 0 = 12; replay 0 = 1
                """.replace("SIDE", "" + side));
        }
        for (int s = 0; s < 4; s++) {
            String text = TABLE + "deal 0 1 0 = 1; give 0 T 0 = 1; lay 0 T 0 = 0; status 0 0 = 2; replay 0 = 1;"
                + "seat 0 S false = 1; replay 0 = 1; seat 0 S true = 0; replay 0 = 0";
            Script.run("replay(): like HANDS: that of SEAT " + s, text.replace("S", "" + s).replace("T", "" + (s + 1) % 4));
        }
    }

    /** Gifts, bids and doublings as many as are asked for, none of them refused. */
    private static String callsOf(int gifts, int bids) {
        StringBuilder text = new StringBuilder(AUCTION + "deal 0 1 0 = 1;");
        for (int c = 0; c < gifts; c++) {
            text.append("give 0 " + c / 15 + " " + c + " = " + (c % 15 + 1) + ";");
        }
        for (int n = 0; n < bids; n++) {
            text.append("bid 0 0 " + (n / 4 + 1) + " " + n % 4 + " = 1;");
        }
        return text.toString();
    }

    private static void playedOverHundred() {
        Script.run("the first 100 are kept: of 99, 100, 101", callsOf(60, 39) + "replay 0 = 1; doubled 0 1 = 1;"
            + "replay 0 = 1; doubled 0 0 = 2; replay 0 = 0; lay 0 0 0 = 0; replay 0 = 0");
        Script.run("the first 100 are kept: 101 less one that was taken back", callsOf(60, 41) + "replay 0 = 0;"
            + "undo 0 = 7; replay 0 = 1; bid 0 1 11 0 = 1; replay 0 = 0; undo 0 = 7; replay 0 = 1");
        Script.run("the first 100 are kept: 105, and 8 taken back", callsOf(60, 45) + """
            replay 0 = 0; undo 0 = 7; undo 0 = 6; undo 0 = 5; undo 0 = 4; replay 0 = 0; undo 0 = 3; replay 0 = 1; undo 0 = 2
            undo 0 = 1; undo 0 = 0; replay 0 = 1
            """);
        Script.run("the first 100 are kept: what is refused or meets a FINDING is not counted", callsOf(60, 40)
            + "bid 0 0 1 0 = -4;".repeat(9) + "give 0 0 0 = -3;".repeat(9) + "lay 0 1 0 = -14;".repeat(9)
            + "lay 0 0 99 = -13;".repeat(9) + "replay 0 = 1");
        Script.run("the first 100 are kept: of each DEAL", callsOf(60, 41) + "replay 0 = 0; undo 0 = 7; deal 0 1 0 = -4;"
            + "table 0 60 0 = 1; deal 0 1 0 = 2; replay 0 = 1; deal 0 1 0 = 3; replay 0 = 1");
    }

    private static void playedOverNow() {
        String ended = TABLE + "kind 0 7 3 = 0; deal 0 1 0 = 1; give 0 0 0 = 1; give 0 1 4 = 1; give 0 1 7 = 2;"
            + "give 0 2 8 = 1; lay 0 0 0 = 0; lay 0 1 0 = 4; lay 0 2 0 = 8; status 0 0 = 2; replay 0 = 1;";
        Script.run("with its SEATS as they are now: one that had no CARDS is EMPTY, as its HAND is NOT DEALT", ended
            + "seat 0 3 false = 1; left 0 3 = -1; replay 0 = 1");
        Script.run("with its SEATS as they are now: NOT DEALT is not a HAND of no places", ended + "seat 0 3 false = 1;"
            + "seat 0 3 true = 0; replay 0 = 0");
        Script.run("with its SEATS as they are now: one that does not go then is left out", ended + "seat 0 1 false = 1;"
            + "left 0 4 = 13; replay 0 = 0; undo 0 = 7; replay 0 = 1");
        Script.run("with its KINDS as they are now: a CARD of THE REST", ended + "kind 0 15 1 = 0; kind 0 14 3 = 0;"
            + "replay 0 = 1");
        // The blank of the hand that was taken away is a card to be laid now, so that the deal played over has not ended.
        Script.run("with its KINDS as they are now: a CARD that was in a HAND", TABLE + """
            kind 0 7 3 = 0; deal 0 1 0 = 1; give 0 0 0 = 1; give 0 1 7 = 1; lay 0 0 0 = 0; status 0 0 = 2; seat 0 1 false = 1
            kind 0 7 0 = 3; seat 0 1 true = 0; replay 0 = 0
            undo 0 = 3; kind 0 7 0 = -4; lay 0 0 0 = 0; replay 0 = 1
            """);
        Script.run("with its GAME: another one in its place counts for nothing", TABLE + """
            deal 0 1 0 = 1; give 0 0 0 = 1; give 0 1 5 = 1; lay 0 0 0 = 0; lay 0 1 0 = 5; game 0 2 0 0 = 1; replay 0 = 1
            won 0 0 1 = 1
            """);
    }

    private static int digestOf(int... numbers) {
        int h = 17;
        for (int number : numbers) {
            h = 31 * h + number;
        }
        return h;
    }

    private static void digests() {
        Script.run("how many CARDS (-1: NOT DEALT); no TURN", TABLE
            + "digest 0 = NEW; seat 0 2 false = 1; deal 0 1 0 = 1; digest 0 = DEALT; digest 1 = -2; digest 4 = -2"
            .replace("NEW", "" + digestOf(-1, -1, -1, -1, 0, 0, 0, 0, 0, 0, 0, 0, 0, -1)).replace("DEALT", ""
                + digestOf(0, 0, -1, 0, 0, 0, 0, 0, 0, 0, 0, 0, 0, -1)));
        int[] numbers = new int[74];
        int[] cards = Mixed.cards(60, 77);
        for (int k = 0; k < 60; k++) {
            numbers[k / 15 * 16] = 15;
            numbers[k / 15 * 16 + 1 + k % 15] = cards[k];
        }
        Script.run("an int that wraps: all CARDS of the largest PACK", "game 0 0 0 0 = 1; table 0 60 0 = 1;"
            + "deal 0 77 -1 = 1; digest 0 = " + digestOf(numbers));
        Script.run("TRICKS, POINTS of SIDE 0, of SIDE 1; SUMS", "game 0 2 0 0 = 1; table 0 16 0 = 1;" + """
            seat 0 2 false = 1; seat 0 1 false = 1; deal 0 1 0 = 1; give 0 0 3 = 1; give 0 0 7 = 2; give 0 3 11 = 1
            lay 0 0 0 = 3; lay 0 3 0 = 11; digest 0 = WON
            lay 0 0 0 = 7; digest 0 = ENDED
            """.replace("WON", "" + digestOf(1, 7, -1, -1, 0, 0, 0, 0, 1, -2, 0, 0, 0, 0, 0))
            .replace("ENDED", "" + digestOf(0, -1, -1, 0, 0, 1, -1, 1, -2, -1, 0, 0, -2, -1)));
    }

    private static void looks() {
        Script.run("finding(): NONE: there is none such; OUTSIDE: what", TABLE + """
            finding 0 0 = -1; finding 0 4 = -1; finding -1 0 = -1; finding 0 5 = -3; finding 0 -1 = -3; finding -1 5 = -3
            deal 0 1 0 = 1; lay 0 2 0 = -13
            finding 0 0 = 3; finding 0 1 = 0; finding 0 2 = 2; finding 0 3 = 0; finding 0 4 = 1; finding 0 5 = -3
            finding 0 -1 = -3; finding 1 0 = -1; finding 1 5 = -3
            finding -1 0 = -1; finding 2147483647 0 = -1; finding -2147483648 0 = -1; finding 0 2147483647 = -3
            finding 0 -2147483648 = -3
            """);
        Script.run("trace(), forget(): empty; since it was", TABLE + """
            trace 0 = -1; trace -1 = -1; forget = 0; deal 0 1 0 = 1; trace 0 = 11; trace 1 = -1; trace -1 = -1; forget = 1
            forget = 0; trace 0 = -1; deal 0 1 0 = 2; trace 0 = 11; forget = 1
            """);
        Script.run("count(): OUTSIDE", """
            count -1 = -3; count 0 = 0; count 1 = 0; count 2 = 0; count 3 = 0; count 4 = 0; count 5 = -3
            count 2147483647 = -3; count -2147483648 = -3
            """);
        Script.run("count(): TABLES that are there, GAMES", """
            game 5 0 0 0 = 1; count 4 = 1; game 5 1 0 0 = 1; count 4 = 1; game 0 4 5 5 = 1; count 4 = 2; game 1 9 0 0 = -3
            count 4 = 2; table 3 4 5 = 1; count 3 = 1; table 3 60 0 = 1; count 3 = 1
            table 0 3 0 = -3; count 3 = 1; table 0 4 0 = 1; table 1 4 0 = 1; table 2 4 0 = 1; count 3 = 4; game 1 0 0 0 = 1
            game 2 0 0 0 = 1; game 3 0 0 0 = 1; game 4 0 0 0 = 1; count 4 = 6
            """);
        Script.run("status(): OUTSIDE; without a DEAL", TABLE + """
            status 0 -1 = -3; status 0 9 = -3; status 0 2147483647 = -3; status 0 -2147483648 = -3; status 1 9 = -2
            status 0 0 = 0; status 0 1 = 0; status 0 2 = 0; status 0 3 = 0; status 0 4 = 0
            status 0 5 = -1; status 0 6 = -1; status 0 7 = 0; status 0 8 = 0
            """);
        Script.run("status(): whether a DEAL is on (1), has ENDED (2), or there was none (0)", TABLE + """
            status 0 0 = 0; deal 0 1 0 = 1; status 0 0 = 1; give 0 0 0 = 1; status 0 0 = 1; lay 0 0 0 = 0; status 0 0 = 2
            undo 0 = 2; status 0 0 = 1; undo 0 = 1; undo 0 = 0; status 0 0 = 0
            """);
        Script.run("status(): (0, NONE, NONE without one)", "game 0 3 0 0 = 1; table 0 16 0 = 1;" + """
            deal 0 1 0 = 1; status 0 4 = 0; status 0 5 = -1; status 0 6 = -1; bid 0 0 1 0 = 1; status 0 4 = 1; status 0 5 = 0
            status 0 6 = 0; undo 0 = 1; status 0 4 = 0; status 0 5 = -1; status 0 6 = -1
            """);
    }
}
