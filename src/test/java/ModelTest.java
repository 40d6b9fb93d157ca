import java.util.Random;

/** Runs of 512 calls, by chance from fixed seeds, on the class and on the model: every answer is the same. */
public final class ModelTest {
    private static final int RUNS = 400, CALLS = 512;
    private static int wrong = 0;

    private final CardTables x = new CardTables();
    private final Model m = new Model();
    private final Random chance;
    private final StringBuilder calls = new StringBuilder();
    private final int smallest, largest, wildness;
    private int made = 0;
    private boolean isWrong = false;

    private ModelTest(long seed) {
        chance = new Random(seed);
        int form = (int) (seed % 6);
        smallest = form == 0 ? 1 : form == 1 ? 5 : 1;
        largest = form < 2 ? 15 : form < 4 ? 4 : 6;
        wildness = form == 5 ? 3 : 12;
    }

    public static void main(String[] args) {
        int runs = args.length > 0 ? Integer.parseInt(args[0]) : RUNS;
        for (int seed = 0; seed < runs && wrong < 5; seed++) {
            new ModelTest(seed).run(seed);
        }
        System.out.println(runs + " runs, " + wrong + " of them not as due");
        if (wrong != 0) {
            System.exit(1);
        }
    }

    private void run(int seed) {
        for (int g = 0; g < 5; g++) {
            call("game", g, g < 4 && chance.nextBoolean() ? g : chance.nextInt(4), 0, 0);
        }
        call("game", 5, 4, chance.nextInt(5), chance.nextInt(5));
        for (int t = 0; t < 2; t++) {
            call("table", t, pack(), chance.nextInt(3) == 0 ? 3 : chance.nextInt(6));
        }
        while (made < CALLS && !isWrong) {
            step(chance.nextInt(wildness) == 0 ? -1 - chance.nextInt(3) : chance.nextInt(100));
        }
        if (isWrong) {
            wrong++;
            System.out.println("run " + seed + ": " + calls);
        }
    }

    private int pack() {
        return 4 * (smallest + chance.nextInt(largest - smallest + 1));
    }

    private int table() {
        return chance.nextInt(40) == 0 ? any() : chance.nextInt(2);
    }

    private int any() {
        int[] odd = {-1, 0, 1, 2, 3, 4, 5, 6, 7, 59, 60, 61, 200, Integer.MAX_VALUE, Integer.MIN_VALUE};
        return chance.nextInt(12) == 0 ? chance.nextInt() : odd[chance.nextInt(odd.length)];
    }

    private int cardOf(int t) {
        return chance.nextInt(t >= 0 && t < 4 && m.tables[t] != null ? m.tables[t].p + (made % 9 == 0 ? 1 : 0) : 60);
    }

    private int seatAtTurn(int t) {
        int s = m.turn(t);
        return s < 0 || chance.nextInt(9) == 0 ? chance.nextInt(4) : s;
    }

    private int placeOf(int t, int s) {
        int left = m.left(t, s);
        return chance.nextInt(Math.max(1, left) + (chance.nextInt(20) == 0 ? 1 : 0));
    }

    private boolean isFresh(int t) {
        return !m.tables[t].laid() && chance.nextInt(3) != 0;
    }

    private void step(int dice) {
        int t = table();
        if (dice < 0) {
            wild();
        } else if (m.status(t, 0) != 1) {
            between(t, dice);
        } else if (dice < 8 && m.best(t, 0) >= 0) {
            ending(t, dice);
        } else if (dice < 70 && isFresh(t)) {
            ahead(t, dice);
        } else if (dice < 75) {
            int s = seatAtTurn(t);
            call(dice < 55 ? "lay" : "revoke", t, s, placeOf(t, s));
        } else {
            looks(t, dice);
        }
    }

    private void between(int t, int dice) {
        int[] kinds = {0, 0, 1, 1, 1, 2, 2, 3};
        if (dice < 6) {
            call("seat", t, chance.nextInt(4), chance.nextInt(3) == 0 ? 0 : 1);
        } else if (dice < 40) {
            call("kind", t, cardOf(t), kinds[chance.nextInt(kinds.length)]);
        } else if (dice < 43) {
            call("match", t, chance.nextInt(4) == 0 ? any() : 1 + chance.nextInt(9));
        } else if (dice < 44) {
            call("table", t, pack(), chance.nextInt(6));
        } else if (dice < 70) {
            call("deal", t, chance.nextInt(), chance.nextInt(3) == 0 ? chance.nextInt(6) - 1 : -1);
        } else {
            looks(t, dice);
        }
    }

    private void ending(int t, int dice) {
        if (dice == 0) {
            call("claim", t, chance.nextInt(2), chance.nextInt(5));
        } else if (dice < 3) {
            call("best", t, chance.nextInt(2));
        } else if (dice < 7) {
            call("line", t, chance.nextInt(2), chance.nextInt(17));
        } else {
            call("check", t, chance.nextInt(2));
        }
    }

    private void ahead(int t, int dice) {
        if (dice < 30) {
            call("give", t, chance.nextInt(4), cardOf(t));
        } else if (dice < 45) {
            int n = m.status(t, 4);
            call("bid", t, chance.nextInt(4), Math.max(1, n + chance.nextInt(2)), chance.nextInt(4));
        } else if (dice < 58) {
            call("doubled", t, chance.nextInt(4));
        } else if (dice < 59) {
            call("kind", t, cardOf(t), chance.nextInt(4));
        } else if (dice < 60) {
            call("deal", t, chance.nextInt(), -1);
        } else if (dice < 61) {
            call("claim", t, chance.nextInt(2), chance.nextInt(5));
        } else {
            int s = chance.nextInt(4);
            call("allowed", t, s, placeOf(t, s));
        }
    }

    private void looks(int t, int dice) {
        int s = chance.nextInt(4);
        switch (dice - 70) {
            case 0: case 1: call("undo", t); break;
            case 2: case 3: case 4: call("replay", t); break;
            case 5: case 6: case 7: call("digest", t); break;
            case 8: call("best", t, chance.nextInt(2)); break;
            case 9: case 10: call("line", t, chance.nextInt(2), chance.nextInt(17)); break;
            case 11: call("check", t, chance.nextInt(2)); break;
            case 12: call("finding", chance.nextInt(61), chance.nextInt(5)); break;
            case 13: case 14: call("trace", chance.nextInt(61)); break;
            case 15: if (chance.nextInt(5) == 0) { call("forget"); } break;
            case 16: call("count", chance.nextInt(5)); break;
            case 17: case 18: call("status", t, chance.nextInt(9)); break;
            case 19: call("card", t, cardOf(t)); break;
            case 20: call("won", t, chance.nextInt(2), chance.nextInt(3)); break;
            case 21: call("revokes", t, s, chance.nextInt(2)); break;
            case 22: call("sum", t, s); break;
            case 23: call("tie", t); break;
            case 24: call("left", t, chance.nextInt(5)); break;
            case 25: call("hand", t, s, placeOf(t, s)); break;
            case 26: call("winner", t); break;
            case 27: call("trick", t, chance.nextInt(4)); break;
            case 28: call("turn", t); break;
            default: call("undo", t); break;
        }
    }

    private void wild() {
        String[] names = {"game", "kindOf", "table", "seat", "kind", "card", "match", "deal", "give", "bid", "doubled",
            "lay", "revoke", "allowed", "turn", "trick", "hand", "left", "winner", "won", "revokes", "sum", "tie", "best",
            "line", "check", "claim", "undo", "replay", "digest", "finding", "trace", "count", "status"};
        String name = names[chance.nextInt(names.length)];
        int t = name.equals("table") && chance.nextInt(4) != 0 ? 3 : chance.nextInt(3) == 0 ? any() : table();
        call(name, t, any(), any(), any());
    }

    private void call(String name, int... a) {
        if (made >= CALLS || isWrong) {
            return;
        }
        made++;
        int[] v = java.util.Arrays.copyOf(a, 4);
        int want = ofModel(name, v);
        String got;
        try {
            got = String.valueOf(ofClass(name, v));
        } catch (RuntimeException | StackOverflowError e) {
            got = String.valueOf(e);
        }
        calls.append(name).append(java.util.Arrays.toString(a)).append(" = ").append(want).append("; ");
        if (!got.equals(String.valueOf(want))) {
            calls.append("but answered ").append(got);
            isWrong = true;
        }
    }

    private int ofClass(String name, int[] v) {
        switch (name) {
            case "game": return x.game(v[0], v[1], v[2], v[3]);
            case "kindOf": return x.kindOf(v[0]);
            case "table": return x.table(v[0], v[1], v[2]);
            case "seat": return x.seat(v[0], v[1], v[2] > 0);
            case "kind": return x.kind(v[0], v[1], v[2]);
            case "card": return x.card(v[0], v[1]);
            case "match": return x.match(v[0], v[1]);
            case "deal": return x.deal(v[0], v[1], v[2]);
            case "give": return x.give(v[0], v[1], v[2]);
            case "bid": return x.bid(v[0], v[1], v[2], v[3]);
            case "doubled": return x.doubled(v[0], v[1]);
            case "lay": return x.lay(v[0], v[1], v[2]);
            case "revoke": return x.revoke(v[0], v[1], v[2]);
            case "allowed": return x.allowed(v[0], v[1], v[2]);
            case "turn": return x.turn(v[0]);
            case "trick": return x.trick(v[0], v[1]);
            case "hand": return x.hand(v[0], v[1], v[2]);
            case "left": return x.left(v[0], v[1]);
            case "winner": return x.winner(v[0]);
            case "won": return x.won(v[0], v[1], v[2]);
            case "revokes": return x.revokes(v[0], v[1], v[2]);
            case "sum": return x.sum(v[0], v[1]);
            case "tie": return x.tie(v[0]);
            case "best": return x.best(v[0], v[1]);
            case "line": return x.line(v[0], v[1], v[2]);
            case "check": return x.check(v[0], v[1]);
            case "claim": return x.claim(v[0], v[1], v[2]);
            case "undo": return x.undo(v[0]);
            case "replay": return x.replay(v[0]);
            case "digest": return x.digest(v[0]);
            case "finding": return x.finding(v[0], v[1]);
            case "trace": return x.trace(v[0]);
            case "forget": return x.forget();
            case "count": return x.count(v[0]);
            default: return x.status(v[0], v[1]);
        }
    }

    private int ofModel(String name, int[] v) {
        switch (name) {
            case "game": return m.game(v[0], v[1], v[2], v[3]);
            case "kindOf": return m.kindOf(v[0]);
            case "table": return m.table(v[0], v[1], v[2]);
            case "seat": return m.seat(v[0], v[1], v[2] > 0);
            case "kind": return m.kind(v[0], v[1], v[2]);
            case "card": return m.card(v[0], v[1]);
            case "match": return m.match(v[0], v[1]);
            case "deal": return m.deal(v[0], v[1], v[2]);
            case "give": return m.give(v[0], v[1], v[2]);
            case "bid": return m.bid(v[0], v[1], v[2], v[3]);
            case "doubled": return m.doubled(v[0], v[1]);
            case "lay": return m.lay(v[0], v[1], v[2]);
            case "revoke": return m.revoke(v[0], v[1], v[2]);
            case "allowed": return m.allowed(v[0], v[1], v[2]);
            case "turn": return m.turn(v[0]);
            case "trick": return m.trick(v[0], v[1]);
            case "hand": return m.hand(v[0], v[1], v[2]);
            case "left": return m.left(v[0], v[1]);
            case "winner": return m.winner(v[0]);
            case "won": return m.won(v[0], v[1], v[2]);
            case "revokes": return m.revokes(v[0], v[1], v[2]);
            case "sum": return m.sum(v[0], v[1]);
            case "tie": return m.tie(v[0]);
            case "best": return m.best(v[0], v[1]);
            case "line": return m.line(v[0], v[1], v[2]);
            case "check": return m.check(v[0], v[1]);
            case "claim": return m.claim(v[0], v[1], v[2]);
            case "undo": return m.undo(v[0]);
            case "replay": return m.replay(v[0]);
            case "digest": return m.digest(v[0]);
            case "finding": return m.finding(v[0], v[1]);
            case "trace": return m.trace(v[0]);
            case "forget": return m.forget();
            case "count": return m.count(v[0]);
            default: return m.status(v[0], v[1]);
        }
    }
}
