import java.util.Random;

/** Ends of four cards a hand, by chance from fixed seeds: best, line and check answer what the model finds by trying all. */
public final class EndsModelTest {
    private static final int ENDS = 60, LINE_CARDS = 2;
    private static int asked = 0, wrong = 0;

    private final CardTables x = new CardTables();
    private final Model m = new Model();
    private final Random chance;
    private final int seed;

    private EndsModelTest(int seed) {
        this.seed = seed;
        chance = new Random(seed);
    }

    public static void main(String[] args) {
        int ends = args.length > 0 ? Integer.parseInt(args[0]) : ENDS;
        for (int seed = 0; seed < ends; seed++) {
            new EndsModelTest(seed).run();
        }
        System.out.println(asked + " answers of ends, " + wrong + " are not as due");
        if (wrong != 0) {
            System.exit(1);
        }
    }

    private void run() {
        boolean isPair = chance.nextInt(6) == 0;
        // A hand of a pair has an eighth of the pack at most.
        int pack = 4 * ((isPair ? 8 : 4) + chance.nextInt(4));
        int kind = chance.nextInt(4);
        due("game", x.game(0, kind, 0, 0), m.game(0, kind, 0, 0));
        due("game", x.game(1, 4, 0, 0), m.game(1, 4, 0, 0));
        due("table", x.table(0, pack, isPair ? 1 : 0), m.table(0, pack, isPair ? 1 : 0));
        for (int c = 0; c < pack; c++) {
            int ofCard = chance.nextInt(5) == 0 ? 1 + chance.nextInt(2) : 0;
            due("kind", x.kind(0, c, ofCard), m.kind(0, c, ofCard));
        }
        int mixedFrom = chance.nextInt();
        due("deal", x.deal(0, mixedFrom, 4), m.deal(0, mixedFrom, 4));
        int suit = chance.nextInt(4);
        due("bid", x.bid(0, 0, 1, suit), m.bid(0, 0, 1, suit));
        look();
        playTrick();
        look();
    }

    private void look() {
        for (int side = 0; side < 2; side++) {
            due("best", x.best(0, side), m.best(0, side));
            due("check", x.check(0, side), m.check(0, side));
            for (int n = 0; n < LINE_CARDS; n++) {
                int k = chance.nextInt(17);
                due("line " + k, x.line(0, side, k), m.line(0, side, k));
            }
        }
    }

    private void playTrick() {
        for (int n = 0; n < 4; n++) {
            int s = m.turn(0);
            int i = chance.nextInt(4);
            due("revoke", x.revoke(0, s, i), m.revoke(0, s, i));
        }
    }

    private void due(String what, int got, int want) {
        asked++;
        if (got != want) {
            wrong++;
            System.out.println("end " + seed + ": " + what + " answered " + got + ", due is " + want);
        }
    }
}
