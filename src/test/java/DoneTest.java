/** Promises 29 to 36: undo, replay, digest, finding, trace, forget, count, status. */
public final class DoneTest {
    public static void main(String[] args) {
        undone();
        undoneWhole();
        playedOver();
        playedOverChanged();
        playedOverLong();
        playedOverBids();
        digests();
        findingsKept();
        traceKept();
        counts();
        Script.end();
    }

    private static void undone() {
        Script.run("29 every kind of call, one by one", """
            game 0 3 0 0 = 1; table 0 16 0 = 1; undo 0 = -4; undo 1 = -2; undo -1 = -2; undo 4 = -2
            deal 0 1 0 = 1; give 0 0 0 = 1; give 0 1 5 = 1; give 0 1 4 = 2; bid 0 0 1 1 = 1; doubled 0 1 = 1
            lay 0 0 0 = 0; status 0 8 = 7; revoke 0 1 0 = 5; status 0 8 = 8; won 0 1 0 = 1; revokes 0 1 0 = 1
            undo 0 = 7; won 0 1 0 = 0; revokes 0 1 0 = 0; trick 0 0 = 0; turn 0 = 1; hand 0 1 0 = 5; hand 0 1 1 = 4
            undo 0 = 6; trick 0 0 = -1; turn 0 = 0; hand 0 0 0 = 0; card 0 0 = 1
            undo 0 = 5; status 0 7 = 0; status 0 4 = 1; undo 0 = 4; status 0 4 = 0; status 0 5 = -1; status 0 6 = -1
            undo 0 = 3; left 0 1 = 1; card 0 4 = 0; left 0 4 = 14; undo 0 = 2; turn 0 = 0; undo 0 = 1; turn 0 = -1; left 0 0 = 0
            undo 0 = 0; status 0 0 = 0; status 0 1 = 0; status 0 2 = 0; left 0 0 = -1; left 0 4 = 16; undo 0 = -4
            count 0 = 2; count 2 = 1; status 0 8 = 0; forget = 9; deal 0 1 0 = 2; status 0 1 = 2
            """);
        Script.run("29 what meets a finding or is refused, and a claim that is wrong, is not kept", """
            game 0 0 0 0 = 1; table 0 16 0 = 1; deal 0 1 0 = 1; give 0 0 0 = 1; give 0 1 4 = 1; status 0 8 = 3
            lay 0 1 0 = -14; lay 0 0 1 = -13; revoke 0 3 0 = -13; give 0 0 0 = -4; deal 0 1 0 = -4; bid 0 0 1 1 = -4
            doubled 0 0 = -4; claim 0 0 1 = 0; claim 0 0 9 = -3; allowed 0 0 0 = 0; replay 0 = 1; best 0 0 = 0
            status 0 8 = 3; claim 0 1 1 = 1; status 0 8 = 4; undo 0 = 3; status 0 0 = 1; count 1 = 3
            """);
        Script.run("29 eight at most", """
            game 0 0 0 0 = 1; table 0 16 0 = 1; deal 0 1 0 = 1; give 0 0 0 = 1; give 0 0 1 = 2; give 0 0 2 = 3; give 0 0 3 = 4
            give 0 1 4 = 1; give 0 1 5 = 2; give 0 1 6 = 3; status 0 8 = 8; give 0 1 7 = 4; status 0 8 = 8; give 0 2 8 = 1
            status 0 8 = 8; undo 0 = 7; undo 0 = 6; undo 0 = 5; undo 0 = 4; undo 0 = 3; undo 0 = 2; undo 0 = 1; undo 0 = 0
            undo 0 = -4; left 0 0 = 1; hand 0 0 0 = 0; hand 0 0 1 = -1; left 0 1 = 0; left 0 4 = 15; give 0 3 9 = 1; status 0 8 = 1; undo 0 = 0
            left 0 3 = 0; card 0 9 = 0
            """);
    }

    private static void undoneWhole() {
        Script.run("29 seats, kinds, sums, the match come back, too", """
            game 0 0 0 0 = 1; table 0 8 0 = 1; match 0 7 = 0; seat 0 2 false = 1; deal 0 1 0 = 1; give 0 0 0 = 1
            lay 0 0 0 = 0; sum 0 0 = 1; status 0 2 = 1
            seat 0 2 true = 0; seat 0 1 false = 1; kind 0 7 2 = 0; match 0 5 = 1; sum 0 0 = 0; status 0 2 = 0
            deal 0 1 0 = 2; undo 0 = 3; status 0 2 = 0; status 0 1 = 1; count 2 = 2; kind 0 7 2 = 2
            undo 0 = 2; sum 0 0 = 0; status 0 2 = 1; kind 0 7 0 = 0; seat 0 1 true = -4; status 0 0 = 1; left 0 2 = -1
            left 0 1 = 0; lay 0 0 0 = 0; sum 0 0 = 1; match 0 9 = 1
            """);
        Script.run("29 the tricks of an earlier deal come back, with their scores and cards", """
            game 0 1 0 0 = 1; table 0 16 0 = 1; seat 0 1 false = 1; kind 0 15 1 = 0; deal 0 1 0 = 1
            give 0 0 12 = 1; give 0 0 5 = 2; give 0 2 3 = 1; give 0 2 8 = 2
            lay 0 0 0 = 12; revoke 0 2 0 = 3; lay 0 0 0 = 5; lay 0 2 0 = 8; won 0 1 0 = 1; won 0 1 1 = 1; card 0 3 = 7
            deal 0 1 0 = 2; give 0 0 15 = 1; lay 0 0 0 = 15; won 0 0 1 = 2; undo 0 = 7; undo 0 = 6; undo 0 = 5; undo 0 = 4
            won 0 0 1 = 1; won 0 1 1 = 0; revokes 0 2 1 = 0; lay 0 2 0 = 8; won 0 1 1 = 1; won 0 0 1 = 1; revokes 0 2 1 = 1
            card 0 12 = 7; card 0 3 = 7; card 0 5 = 6; card 0 8 = 6; won 0 1 2 = 2; won 0 0 2 = 2
            """);
        Script.run("29 each table has its own; table() keeps none", """
            game 0 0 0 0 = 1; table 0 8 0 = 1; table 1 8 0 = 1; deal 0 1 -1 = 1; deal 1 1 -1 = 2; lay 1 0 0 = CARD
            status 0 8 = 1; status 1 8 = 2; undo 0 = 0; status 1 8 = 2; undo 0 = -4; undo 1 = 1; turn 1 = 0
            table 1 8 0 = 1; undo 1 = -4; status 1 8 = 0; deal 1 1 -1 = 3; status 1 8 = 1
            """.replace("CARD", "" + Mixed.cards(8, 1)[0]));
        Script.run("29 not the trace, tries, findings", """
            game 0 0 0 0 = 1; table 0 8 0 = 1; deal 0 1 0 = 1; give 0 0 0 = 1; lay 0 1 0 = -13; lay 0 0 0 = 0
            count 0 = 2; count 1 = 1; undo 0 = 2; undo 0 = 1; undo 0 = 0; count 0 = 2; count 1 = 1; count 2 = 1
            trace 0 = 11; trace 1 = 21; trace 2 = 31; trace 3 = 41; trace 4 = 51; trace 5 = 51; trace 6 = -1; finding 0 0 = 3
            """);
    }

    private static void playedOver() {
        Script.run("30 with every kind of call", """
            game 0 3 0 0 = 1; table 0 16 0 = 1; replay 0 = -4; replay 1 = -2; replay 4 = -2; replay -1 = -2
            deal 0 5 1 = 1; replay 0 = 1; give 0 0 CARD = 2; bid 0 0 1 1 = 1; doubled 0 1 = 1; replay 0 = 1
            forget = 1; revoke 0 0 1 = CARD; replay 0 = 1; trace 2 = -1; count 0 = 1
            """.replace("CARD", "" + Mixed.cards(16, 5)[9]));
        Script.run("30 a deal with a revoke that is found, and a claim", """
            game 0 0 0 0 = 1; table 0 16 0 = 1; deal 0 1 0 = 1
            give 0 0 12 = 1; give 0 0 5 = 2; give 0 0 9 = 3; give 0 1 4 = 1; give 0 1 1 = 2; give 0 2 8 = 1; give 0 2 2 = 2
            lay 0 0 0 = 12; lay 0 1 1 = -16; lay 0 1 0 = 4; revoke 0 2 1 = 2; lay 0 0 0 = 5; lay 0 1 0 = 1; lay 0 2 0 = 8
            won 0 1 0 = 1; replay 0 = 1; claim 0 0 1 = 1; won 0 0 0 = 2; replay 0 = 1; status 0 0 = 2; count 0 = 7
            count 1 = 1; count 2 = 1; forget = 14; replay 0 = 1; forget = 0; status 0 8 = 8
            undo 0 = 7; replay 0 = 1; undo 0 = 6; replay 0 = 1
            """);
        Script.run("30 a deal that was taken back is none; the one before is the latest again", """
            game 0 0 0 0 = 1; table 0 8 0 = 1; deal 0 1 0 = 1; undo 0 = 0; replay 0 = -4
            deal 0 1 0 = 2; give 0 0 0 = 1; lay 0 0 0 = 0; deal 0 2 0 = 3; replay 0 = 1; undo 0 = 3; replay 0 = 1
            status 0 1 = 2; won 0 0 0 = 1
            """);
    }

    private static void playedOverChanged() {
        String ended = """
            game 0 0 0 0 = 1; table 0 16 0 = 1; kind 0 7 3 = 0; deal 0 1 0 = 1; give 0 0 0 = 1; give 0 1 4 = 1; give 0 1 7 = 2
            lay 0 0 0 = 0; lay 0 1 0 = 4; status 0 0 = 2; replay 0 = 1
            """;
        Script.run("30 seats as they are now: an empty one without cards", ended + """
            seat 0 3 false = 1; replay 0 = 1; seat 0 3 true = 0; left 0 3 = -1; replay 0 = 0
            """);
        Script.run("30 seats as they are now: the winner's seat", ended + """
            seat 0 1 false = 1; replay 0 = 0
            """);
        Script.run("30 kinds as they are now, of cards that were not played", ended + """
            kind 0 9 1 = 0; kind 0 11 3 = 0; replay 0 = 1
            """);
        int[] mixed = Mixed.cards(8, 3);
        StringBuilder blanks = new StringBuilder("game 0 0 0 0 = 1; table 0 8 0 = 1;");
        for (int c = 0; c < 8; c++) {
            blanks.append(c == mixed[0] ? "" : "kind 0 " + c + " 3 = 0;");
        }
        blanks.append("deal 0 3 1 = 1; lay 0 0 0 = " + mixed[0] + "; status 0 0 = 2; replay 0 = 1; left 0 4 = 4;");
        Script.run("30 the rest in order: the blank of seat 3 is behind it, but would be in front of it", blanks
            + "seat 0 3 false = 1; left 0 4 = 5; replay 0 = 0; seat 0 3 true = 0; replay 0 = 0; undo 0 = 1; replay 0 = 1");
        Script.run("30 kinds as they are now: a hand that gave way to the rest", """
            game 0 0 0 0 = 1; table 0 8 0 = 1; kind 0 7 3 = 0; deal 0 1 0 = 1; give 0 0 0 = 1; give 0 1 7 = 1; lay 0 0 0 = 0
            seat 0 1 false = 1; seat 0 1 true = 0; replay 0 = 0; undo 0 = 3; replay 0 = 1
            """);
    }

    private static void playedOverLong() {
        StringBuilder text = new StringBuilder("game 0 0 0 0 = 1; table 0 60 0 = 1; deal 0 1 0 = 1;");
        for (int c = 0; c < 60; c++) {
            text.append("give 0 " + c / 15 + " " + c + " = " + (c % 15 + 1) + ";");
        }
        // Whose turn it is comes from a second object, for this is about replay() alone.
        CardTables told = new CardTables();
        told.game(0, 0, 0, 0);
        told.table(0, 60, 0);
        told.deal(0, 1, 0);
        for (int c = 0; c < 60; c++) {
            told.give(0, c / 15, c);
        }
        for (int laid = 1; laid <= 41; laid++) {
            int s = told.turn(0);
            int c = told.hand(0, s, 0);
            told.revoke(0, s, 0);
            text.append("revoke 0 " + s + " 0 = " + c + ";");
            if (laid == 40) {
                text.append("replay 0 = 1;");
            }
        }
        Script.run("30 of more than 100 calls it is 0", text + "replay 0 = 0; undo 0 = 7; replay 0 = 1; status 0 3 = 10");
    }

    private static void playedOverBids() {
        StringBuilder text = new StringBuilder("game 0 3 0 0 = 1; table 0 60 0 = 1; deal 0 1 0 = 1;");
        for (int c = 0; c < 60; c++) {
            text.append("give 0 " + c / 15 + " " + c + " = " + (c % 15 + 1) + ";");
        }
        for (int n = 0; n < 38; n++) {
            text.append("bid 0 0 " + (n / 4 + 1) + " " + n % 4 + " = 1;");
        }
        Script.run("30 bids and doublings are among the 100", text + """
            doubled 0 1 = 1; doubled 0 2 = 2; replay 0 = 1; lay 0 0 0 = 0; replay 0 = 0; undo 0 = 7; replay 0 = 1
            """);
    }

    private static int digestOf(int... numbers) {
        int h = 17;
        for (int number : numbers) {
            h = 31 * h + number;
        }
        return h;
    }

    private static void digests() {
        Script.run("31 of a new table, of one with cards, tricks, sums", """
            game 0 1 0 0 = 1; table 0 16 0 = 1; digest 1 = -2; digest -1 = -2; digest 4 = -2; digest 0 = NEW
            kind 0 0 1 = 0; seat 0 2 false = 1; deal 0 1 0 = 1; give 0 0 9 = 1; give 0 0 6 = 2; give 0 1 5 = 1; give 0 3 13 = 1
            digest 0 = DEALT; lay 0 0 0 = 9; lay 0 1 0 = 5; digest 0 = LAID; lay 0 3 0 = 13; digest 0 = WON
            lay 0 0 0 = 6; digest 0 = ENDED
            """.replace("NEW", "" + digestOf(-1, -1, -1, -1, 0, 0, 0, 0, 0, 0, 0, 0, 0, -1))
            .replace("DEALT", "" + digestOf(2, 9, 6, 1, 5, -1, 1, 13, 0, 0, 0, 0, 0, 0, 0, 0, 0, 0))
            .replace("LAID", "" + digestOf(1, 6, 0, -1, 1, 13, 2, 9, 5, 0, 0, 0, 0, 0, 0, 0, 0, 3))
            .replace("WON", "" + digestOf(1, 6, 0, -1, 0, 0, 0, 0, 1, 1, 0, 0, 0, 0, 0))
            .replace("ENDED", "" + digestOf(0, 0, -1, 0, 0, 1, 1, 1, 1, 1, 0, 0, 0, -1)));
        Script.run("31 tricks and points of a side stand together", """
            game 0 1 0 0 = 1; table 0 16 0 = 1; kind 0 0 1 = 0; deal 0 1 0 = 1; give 0 0 0 = 1; give 0 0 1 = 2; lay 0 0 0 = 0
            won 0 0 1 = 2; digest 0 = WON
            """.replace("WON", "" + digestOf(1, 1, 0, 0, 0, 0, 1, 2, 0, 0, 0, 0, 0, 0, 0)));
    }

    private static void findingsKept() {
        StringBuilder text = new StringBuilder("game 0 0 0 0 = 1; table 0 8 0 = 1; table 2 8 0 = 1; deal 0 1 0 = 1; deal 2 1 0 = 2;");
        for (int n = 1; n <= 65; n++) {
            text.append(n % 2 == 0 ? "lay 0 " + n % 4 + " 0 = -13;" : "revoke 2 " + n % 4 + " 0 = -13;");
        }
        Script.run("32 the latest 60 are kept", text + """
            count 1 = 65; count 0 = 65; finding 0 0 = 3; finding 0 1 = 0; finding 0 2 = 2; finding 0 3 = 0; finding 0 4 = 6
            finding 1 1 = 2; finding 1 2 = 3; finding 1 4 = 7; finding 59 0 = 3; finding 59 1 = 2; finding 59 2 = 1; finding 59 4 = 65
            finding 60 0 = -1; finding 60 4 = -1; finding -1 0 = -1; finding 2147483647 0 = -1; finding -2147483648 3 = -1
            finding 0 5 = -3; finding 0 -1 = -3; finding 99 5 = -3; finding -1 -1 = -3
            """);
    }

    private static void traceKept() {
        StringBuilder text = new StringBuilder("game 0 0 0 0 = 1; game 1 4 0 0 = 1; table 0 16 1 = 1; deal 0 1 0 = 1; give 0 0 0 = 1;");
        for (int n = 1; n <= 31; n++) {
            text.append("allowed 0 0 0 = 0;");
        }
        Script.run("33 34 the latest 60 are kept, all are counted", text + """
            trace 0 = 24; trace 1 = 21; trace 58 = 24; trace 59 = 21; trace 60 = -1; trace -1 = -1; trace 2147483647 = -1
            forget = 63; trace 0 = -1; forget = 0; allowed 0 0 0 = 0; trace 0 = 24; trace 1 = 21; trace 2 = -1; forget = 2
            """);
    }

    private static void counts() {
        Script.run("35 36 counts and what is outside", """
            count -1 = -3; count 5 = -3; count 2147483647 = -3; game 2 0 0 0 = 1; count 4 = 1; table 3 8 2 = 1; count 3 = 1
            table 3 8 2 = 1; count 3 = 1; table 0 8 2 = 1; count 3 = 2
            status 0 -1 = -3; status 0 9 = -3; status 1 0 = -2; status 1 9 = -2; status -1 0 = -2; status 4 0 = -2
            deal 3 1 0 = 1; deal 0 1 0 = 2; count 2 = 2; status 3 1 = 1; status 0 1 = 2; status 0 2 = 1
            give 0 0 0 = 1; lay 0 1 0 = -13; lay 0 4 0 = -2; lay 1 0 0 = -2; count 0 = 1; lay 0 0 0 = 0; lay 0 0 0 = -4; count 0 = 2
            count 1 = 1; status 0 0 = 2; status 0 3 = 1; status 3 0 = 1; revoke 3 0 0 = -13; count 0 = 3; finding 1 1 = 3; finding 1 4 = 3
            """);
        Script.run("36 of the latest bid", """
            game 0 3 0 0 = 1; table 0 16 0 = 1; deal 0 1 -1 = 1; status 0 4 = 0; status 0 5 = -1; status 0 6 = -1
            bid 0 3 2 0 = 1; status 0 4 = 2; status 0 5 = 0; status 0 6 = 3; doubled 0 0 = 1; doubled 0 1 = 2; status 0 7 = 2
            """);
    }
}
