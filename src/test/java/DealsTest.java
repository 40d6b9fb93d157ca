/** Promises 9 to 12: deal, give, bid, doubled. */
public final class DealsTest {
    public static void main(String[] args) {
        deals();
        mixes();
        gifts();
        bids();
        doublings();
        Script.end();
    }

    private static void deals() {
        Script.run("9 numbers of all tables, refusals", """
            game 0 0 0 0 = 1; table 0 16 0 = 1; table 1 8 0 = 1
            deal 0 1 5 = -3; deal 0 1 -2 = -3; deal 0 1 2147483647 = -3; deal 0 1 -2147483648 = -3
            deal 2 1 99 = -2; deal -1 1 0 = -2; deal 4 1 0 = -2; count 2 = 0; trace 0 = -1
            deal 0 1 4 = 1; trace 0 = 11; trace 1 = -1; deal 0 1 4 = -4; deal 0 1 5 = -3; trace 1 = -1
            deal 1 1 -1 = 2; left 1 0 = 2; count 2 = 2; status 0 1 = 1; status 1 1 = 2
            status 0 0 = 1; turn 0 = 0; turn 1 = 0; winner 0 = -1; status 0 3 = 0; won 0 0 1 = 0
            """);
        Script.run("9 one on in which nobody has the turn gives way", """
            game 0 0 0 0 = 1; table 0 16 0 = 1; deal 0 9 0 = 1; turn 0 = -1; status 0 0 = 1
            left 0 0 = 0; left 0 3 = 0; left 0 4 = 16; hand 0 0 0 = -1
            deal 0 9 0 = 2; status 0 2 = 2; give 0 2 9 = 1; turn 0 = 2; deal 0 9 0 = -4
            """);
        Script.run("9 blanks alone give no turn; the first seat that can lay has it", """
            game 0 0 0 0 = 1; table 0 4 0 = 1; kind 0 0 3 = 0; kind 0 1 3 = 0; kind 0 2 3 = 0; kind 0 3 3 = 0
            deal 0 1 -1 = 1; turn 0 = -1; status 0 0 = 1; left 0 0 = 1; lay 0 0 0 = -14; allowed 0 0 0 = -15
            best 0 0 = -4
            deal 0 1 0 = 2; kind 0 2 0 = 3; give 0 1 1 = 1; turn 0 = -1; give 0 3 2 = 1; turn 0 = 3
            give 0 2 0 = 1; turn 0 = 3; give 0 0 3 = 1; turn 0 = 3
            """);
        Script.run("9 a game of kind pair has hands of an eighth, 1 at least", """
            game 0 0 0 0 = 1; game 1 4 0 0 = 1; table 0 4 1 = 1; table 1 60 1 = 1; table 2 60 0 = 1
            deal 0 1 2 = -3; deal 0 1 -1 = 1; left 0 0 = 1; left 0 3 = 1; trace 0 = 12; trace 1 = -1
            deal 1 1 8 = -3; deal 1 1 -1 = 2; left 1 0 = 7; left 1 4 = 32
            deal 2 1 16 = -3; deal 2 1 -1 = 3; left 2 3 = 15; left 2 4 = 0; trace 2 = 11
            """);
        Script.run("9 no bid, not doubled, no tricks: a deal begins anew", """
            game 0 3 0 0 = 1; table 0 8 0 = 1; deal 0 1 0 = 1; give 0 0 0 = 1; give 0 1 4 = 1
            bid 0 0 2 1 = 1; doubled 0 1 = 1; lay 0 0 0 = 0; lay 0 1 0 = 4
            status 0 0 = 2; status 0 4 = 2; status 0 7 = 1; won 0 1 0 = 1; winner 0 = 1
            deal 0 1 0 = 2; status 0 4 = 0; status 0 5 = -1; status 0 6 = -1; status 0 7 = 0
            won 0 1 0 = 0; won 0 1 2 = 0; winner 0 = -1; status 0 3 = 0; left 0 4 = 8; status 0 1 = 2
            """);
    }

    private static void mixes() {
        for (int seed : new int[] {0, 1, -1, 7, 123456789, Integer.MAX_VALUE, Integer.MIN_VALUE}) {
            for (int pack = 4; pack <= 60; pack += 8) {
                dealOf(pack, seed, pack / 4, NOBODY);
                dealOf(pack, seed, pack / 8, NOBODY);
                dealOf(pack, seed, pack / 4, 1);
            }
        }
    }

    private static final int NOBODY = -1;

    /** Each taken seat gets so many from the front of the rest, one seat after the other. */
    private static void dealOf(int pack, int seed, int n, int empty) {
        int[] cards = Mixed.cards(pack, seed);
        StringBuilder text = new StringBuilder("game 0 0 0 0 = 1; table 0 " + pack + " 0 = 1;");
        if (empty != NOBODY) {
            text.append("seat 0 ").append(empty).append(" false = 1;");
        }
        text.append("deal 0 ").append(seed).append(' ').append(n).append(" = 1;");
        int from = 0;
        for (int s = 0; s < 4; s++) {
            for (int i = 0; i < n && s != empty; i++) {
                text.append("hand 0 " + s + " " + i + " = " + cards[from] + ";");
                text.append("card 0 " + cards[from] + " = " + (1 + s) + ";");
                from++;
            }
            text.append("hand 0 " + s + " " + n + " = " + (s == empty ? -12 : -1) + ";");
        }
        text.append("left 0 4 = " + (pack - from) + ";");
        Script.run("9 mixed " + pack + " from " + seed, text.toString());
    }

    private static void gifts() {
        Script.run("10 a card comes behind the hand", """
            game 0 0 0 0 = 1; table 0 8 0 = 1; table 1 8 0 = 1; seat 0 3 false = 1
            give 0 0 0 = -4; deal 0 1 0 = 1
            give 0 2 7 = 1; turn 0 = 2; hand 0 2 0 = 7; card 0 7 = 3; left 0 4 = 7
            give 0 2 1 = 2; hand 0 2 1 = 1; left 0 2 = 2; give 0 2 0 = -3; left 0 4 = 6
            give 0 0 7 = -4; give 0 3 0 = -4; give 0 1 0 = 1; turn 0 = 1
            give 0 0 8 = -2; give 0 0 -1 = -2; give 0 4 0 = -2; give 0 -1 0 = -2; give 2 0 0 = -2
            give 0 2 8 = -2; give 1 0 0 = -4
            lay 0 1 0 = 0; give 0 0 2 = -4; give 0 2 3 = -3
            lay 0 2 0 = 7; give 0 0 2 = -4; lay 0 2 0 = 1; status 0 0 = 2; give 0 0 2 = -4; status 0 8 = 7
            """);
        Script.run("10 behind what was dealt", """
            game 0 0 0 0 = 1; table 0 16 0 = 1; deal 0 7 3 = 1; give 0 1 CARD = 4; hand 0 1 3 = CARD; left 0 4 = 3
            give 0 1 OTHER = -3; give 0 0 CARD = -4; give 0 0 OTHER = 4; left 0 4 = 2
            """.replace("CARD", "" + Mixed.cards(16, 7)[14]).replace("OTHER", "" + Mixed.cards(16, 7)[12]));
    }

    private static void bids() {
        Script.run("11 above the latest, by n, then by suit", """
            game 0 3 0 0 = 1; table 0 16 0 = 1; bid 0 0 1 0 = -4; seat 0 3 false = 1; deal 0 1 -1 = 1
            bid 0 0 1 1 = 1; status 0 4 = 1; status 0 5 = 1; status 0 6 = 0
            bid 0 1 1 1 = -4; bid 0 1 1 0 = -4; bid 0 1 1 2 = 1; status 0 6 = 1; status 0 5 = 2
            bid 0 2 2 0 = 1; bid 0 2 1 3 = -4; bid 0 2 4 3 = 1; status 0 4 = 4; status 0 6 = 2
            bid 0 0 4 3 = -4; bid 0 0 5 0 = -3; bid 0 0 0 0 = -3; bid 0 0 -1 0 = -3; bid 0 0 4 4 = -3; bid 0 0 4 -1 = -3
            bid 0 3 4 3 = -4; bid 0 4 9 9 = -2; bid 0 -1 1 0 = -2; bid 1 0 1 0 = -2; status 0 4 = 4; status 0 8 = 5
            """);
        Script.run("11 not by an empty seat, not in other games, not when a card was laid, not when it has ended", """
            game 0 3 0 0 = 1; game 1 1 0 0 = 1; game 2 4 0 0 = 1; game 3 0 0 0 = 1; game 4 2 0 0 = 1
            table 0 8 0 = 1; table 1 8 1 = 1; table 2 8 2 = 1; seat 0 2 false = 1
            deal 0 1 0 = 1; deal 1 1 -1 = 2; deal 2 1 -1 = 3
            bid 1 0 1 1 = -4; bid 1 0 3 1 = -3; bid 2 0 1 1 = -4; bid 2 0 2 1 = -3
            bid 0 2 1 1 = -4; give 0 0 0 = 1; give 0 1 4 = 1; bid 0 0 1 0 = 1
            lay 0 0 0 = 0; bid 0 1 1 3 = -4; bid 0 1 3 3 = -3; lay 0 1 0 = 4; status 0 0 = 2; bid 0 1 1 3 = -4
            table 3 8 3 = 1; deal 3 1 -1 = 4; bid 3 0 1 0 = -4; table 3 8 4 = 1; deal 3 1 -1 = 5; bid 3 0 1 0 = -4
            """);
    }

    private static void doublings() {
        Script.run("12 by the other side, then by the bidder's, no third time", """
            game 0 3 0 0 = 1; table 0 16 0 = 1; seat 0 3 false = 1; doubled 0 1 = -4; deal 0 1 -1 = 1; doubled 0 1 = -4
            bid 0 0 1 1 = 1; doubled 0 0 = -4; doubled 0 2 = -4; doubled 0 3 = -4; doubled 0 1 = 1; status 0 7 = 1
            doubled 0 1 = -4; doubled 0 3 = -4; doubled 0 2 = 2; status 0 7 = 2; doubled 0 0 = -4; doubled 0 1 = -4
            bid 0 1 2 0 = 1; status 0 7 = 0; doubled 0 1 = -4; doubled 0 2 = 1; doubled 0 1 = 2; doubled 0 0 = -4
            bid 0 1 2 1 = 1; status 0 7 = 0; lay 0 0 0 = CARD; doubled 0 0 = -4
            doubled 0 4 = -2; doubled 0 -1 = -2; doubled 1 0 = -2; doubled 4 0 = -2
            """.replace("CARD", "" + Mixed.cards(16, 1)[0]));
        Script.run("12 when a card was laid it is too late, in the second trick, too", """
            game 0 3 0 0 = 1; table 0 8 0 = 1; deal 0 1 0 = 1; give 0 0 0 = 1; give 0 0 4 = 2
            bid 0 0 1 0 = 1; lay 0 0 0 = 0; status 0 3 = 1; doubled 0 1 = -4; lay 0 0 0 = 4; doubled 0 1 = -4
            """);
    }
}
