import java.util.Arrays;

/** Tables for card games with tricks, as the document tells them. */
public final class CardTables {
    public static final int NONE = -1, UNKNOWN = -2, OUTSIDE = -3, STATE = -4;

    private static final int TABLES = 4, GAMES = 6, SEATS = 4, CARDS = 60, LONGEST_HAND = 15;
    private static final int FOLLOW = 0, MUST = 1, VOID = 2, AUCTION = 3, PAIR = 4;
    private static final int TRUMP = 4, JOKER = 5, BLANK = 6;
    private static final int IN_REST = 0, IN_HAND = 1, IN_TRICK = 5, IS_WON = 6;
    private static final int NOBODY = 1, NOT_DEALT = 2, NO_CARD = 3, TURN = 4, NOT_SO = 5, BARRED = 6, SHARED = 7;
    private static final int NO_DEAL = 0, IS_ON = 1, HAS_ENDED = 2;
    private static final int GIVE = 0, BID = 1, DOUBLING = 2, LAY = 3, REVOKE = 4, CLAIM = 5;
    private static final int MOST_DEALS = 200, MOST_KEPT = 8, MOST_CALLS = 100, MOST_NOTES = 60;
    private static final int NOTE_PARTS = 5, FOUND = 9, END_CARDS = 4;

    private final Game[] games;
    private final Table[] tables;
    private final Table[] kept;
    private final int[] keptNext;
    private final int[] keptCount;
    private final Table aside;
    private final Notes notes;
    private final Notes quiet;
    private final Ends ends;

    public CardTables() {
        games = new Game[GAMES];
        tables = new Table[TABLES];
        kept = new Table[TABLES * MOST_KEPT];
        for (int t = 0; t < TABLES; t++) {
            tables[t] = new Table(t);
        }
        for (int k = 0; k < TABLES * MOST_KEPT; k++) {
            kept[k] = new Table(NONE);
        }
        keptNext = new int[TABLES];
        keptCount = new int[TABLES];
        aside = new Table(NONE);
        notes = new Notes(false);
        quiet = new Notes(true);
        ends = new Ends();
    }

    // ---- tables and games

    public int game(int g, int kind, int a, int b) {
        boolean isPair = kind == PAIR;
        if (!isGame(g) || isPair && (gameAt(a) == null || gameAt(b) == null)) {
            return UNKNOWN;
        }
        if (kind < FOLLOW || kind > PAIR) {
            return OUTSIDE;
        }
        if (!isPair) {
            games[g] = newGame(kind);
        } else if (gameAt(a) instanceof Follow first && gameAt(b) instanceof Follow second) {
            games[g] = new Pair(first, second);
        } else {
            return STATE;
        }
        return 1;
    }

    public int kindOf(int g) {
        Game game = gameAt(g);
        return game == null ? UNKNOWN : game.type;
    }

    public int table(int t, int pack, int g) {
        Game game = gameAt(g);
        if (t < 0 || t >= TABLES || game == null) {
            return UNKNOWN;
        }
        if (pack < 4 || pack > CARDS || (pack & 3) != 0) {
            return OUTSIDE;
        }
        tables[t].setUp(pack, game);
        keptCount[t] = 0;
        return 1;
    }

    public int seat(int t, int s, boolean taken) {
        Table table = tableAt(t);
        if (table == null || !isSeat(s)) {
            return UNKNOWN;
        }
        if (table.isOn()) {
            return STATE;
        }
        int before = table.taken[s] ? 1 : 0;
        if (!taken) {
            table.takeHandAway(s);
        }
        table.taken[s] = taken;
        return before;
    }

    public int kind(int t, int c, int kind) {
        Table table = tableAt(t);
        if (table == null || !table.hasCard(c)) {
            return UNKNOWN;
        }
        if (kind < 0 || kind > 3) {
            return OUTSIDE;
        }
        if (table.places[c] != IN_REST) {
            return STATE;
        }
        int before = Math.max(0, table.colours[c] - 3);
        table.colours[c] = kind == 0 ? c & 3 : kind + 3;
        return before;
    }

    public int card(int t, int c) {
        Table table = tableAt(t);
        return table == null || !table.hasCard(c) ? UNKNOWN : table.places[c];
    }

    public int match(int t, int n) {
        Table table = tableAt(t);
        if (table == null) {
            return UNKNOWN;
        }
        if (n < 1 || n > MOST_DEALS) {
            return OUTSIDE;
        }
        if (table.isOn()) {
            return STATE;
        }
        int before = table.matchHad;
        table.matchSize = n;
        table.matchHad = 0;
        Arrays.fill(table.sums, 0);
        return before;
    }

    // ---- deals

    public int deal(int t, int seed, int n) {
        Table table = tableAt(t);
        if (table == null) {
            return UNKNOWN;
        }
        if (n < -1 || n > table.sizeBy(quiet)) {
            return OUTSIDE;
        }
        if (table.isOn() && table.deal.turn != NONE || table.matchHad >= table.matchSize) {
            return STATE;
        }
        keep(table);
        int size = table.sizeBy(notes);
        notes.number++;
        table.matchHad++;
        table.begin(seed, n < 0 ? size : n);
        table.deal.number = notes.number;
        return notes.number;
    }

    public int give(int t, int s, int c) {
        Table table = tableAt(t);
        if (table == null || !isSeat(s) || !table.hasCard(c)) {
            return UNKNOWN;
        }
        int refusal = table.refusalToGive(quiet, s, c);
        if (refusal != 0) {
            return refusal;
        }
        keep(table);
        table.deal.calls.add(packed(GIVE, s, c, 0));
        return table.giveCard(s, c);
    }

    public int bid(int t, int s, int n, int suit) {
        Table table = tableAt(t);
        if (table == null || !isSeat(s)) {
            return UNKNOWN;
        }
        int refusal = table.refusalToBid(quiet, s, n, suit);
        if (refusal != 0) {
            return refusal;
        }
        keep(table);
        table.deal.calls.add(packed(BID, s, n, suit));
        table.deal.setBid(n, suit, s);
        return 1;
    }

    public int doubled(int t, int s) {
        Table table = tableAt(t);
        if (table == null || !isSeat(s)) {
            return UNKNOWN;
        }
        if (!table.canDouble(s)) {
            return STATE;
        }
        keep(table);
        table.deal.calls.add(packed(DOUBLING, s, 0, 0));
        table.deal.doublings++;
        return table.deal.doublings;
    }

    // ---- plays

    public int lay(int t, int s, int i) {
        Table table = tableAt(t);
        if (table == null || !isSeat(s)) {
            return UNKNOWN;
        }
        return table.isOn() ? play(table, notes, LAY, s, i) : STATE;
    }

    public int revoke(int t, int s, int i) {
        Table table = tableAt(t);
        if (table == null || !isSeat(s)) {
            return UNKNOWN;
        }
        return table.isOn() ? play(table, notes, REVOKE, s, i) : STATE;
    }

    public int allowed(int t, int s, int i) {
        Table table = tableAt(t);
        if (table == null || !isSeat(s)) {
            return UNKNOWN;
        }
        if (!table.isOn()) {
            return STATE;
        }
        int finding = table.findingOf(s, i, false);
        return finding != 0 ? -10 - finding : table.ruleAgainst(notes, s, i);
    }

    public int turn(int t) {
        Table table = tableAt(t);
        return table == null ? UNKNOWN : table.deal.turn;
    }

    public int trick(int t, int i) {
        Table table = tableAt(t);
        return table == null ? UNKNOWN : table.trick.at(i);
    }

    public int hand(int t, int s, int i) {
        Table table = tableAt(t);
        if (table == null || !isSeat(s)) {
            return UNKNOWN;
        }
        Row hand = table.handOf(s);
        return hand.length < 0 ? -10 - NOT_DEALT : hand.at(i);
    }

    public int left(int t, int s) {
        Table table = tableAt(t);
        if (table == null || !isSeat(s) && s != SEATS) {
            return UNKNOWN;
        }
        return s == SEATS ? table.rest.length : table.handOf(s).length;
    }

    public int winner(int t) {
        Table table = tableAt(t);
        return table == null ? UNKNOWN : table.deal.winner;
    }

    public int won(int t, int side, int what) {
        Table table = tableAt(t);
        if (table == null || !isSide(side)) {
            return UNKNOWN;
        }
        switch (what) {
            case 0:
                return table.deal.tricks[side];
            case 1:
                return table.deal.points[side];
            case 2:
                return table.cardsWon(side);
            default:
                return OUTSIDE;
        }
    }

    public int revokes(int t, int s, int what) {
        Table table = tableAt(t);
        if (table == null || !isSeat(s)) {
            return UNKNOWN;
        }
        if (what < 0 || what > 1) {
            return OUTSIDE;
        }
        return table.deal.revokesOf(s, what == 1);
    }

    // ---- scores

    public int sum(int t, int s) {
        Table table = tableAt(t);
        return table == null || !isSeat(s) ? UNKNOWN : table.sums[s];
    }

    public int tie(int t) {
        Table table = tableAt(t);
        if (table == null) {
            return UNKNOWN;
        }
        int ahead = table.sums[0] + table.sums[2] - table.sums[1] - table.sums[3];
        return ahead > 0 ? 0 : ahead < 0 ? 1 : 2;
    }

    // ---- ends

    public int best(int t, int side) {
        Table table = tableAt(t);
        if (table == null || !isSide(side)) {
            return UNKNOWN;
        }
        return table.isEnd() ? ends.bestOf(table, side) : STATE;
    }

    public int line(int t, int side, int k) {
        Table table = tableAt(t);
        if (table == null || !isSide(side)) {
            return UNKNOWN;
        }
        return table.isEnd() ? ends.lineCard(table, side, k) : STATE;
    }

    public int check(int t, int side) {
        Table table = tableAt(t);
        if (table == null || !isSide(side)) {
            return UNKNOWN;
        }
        if (!table.isEnd()) {
            return STATE;
        }
        ends.begin(table, side);
        int best = ends.bestFrom(table.deal.turn, 0);
        return ends.sureFrom(table.deal.turn, 0) >= best ? 1 : 0;
    }

    public int claim(int t, int side, int n) {
        Table table = tableAt(t);
        if (table == null || !isSide(side)) {
            return UNKNOWN;
        }
        if (n < 0 || n > END_CARDS) {
            return OUTSIDE;
        }
        if (!table.isEnd()) {
            return STATE;
        }
        boolean isRight = ends.bestOf(table, side) >= n;
        if (isRight) {
            keep(table);
        }
        table.deal.calls.add(packed(CLAIM, side, n, 0));
        if (isRight) {
            table.claimBy(notes, side, n);
        }
        return isRight ? 1 : 0;
    }

    // ---- what was done

    public int undo(int t) {
        Table table = tableAt(t);
        if (table == null) {
            return UNKNOWN;
        }
        if (keptCount[t] <= 0) {
            return STATE;
        }
        keptCount[t]--;
        keptNext[t] = (keptNext[t] + MOST_KEPT - 1) & (MOST_KEPT - 1);
        table.setTo(kept[t * MOST_KEPT + keptNext[t]]);
        return keptCount[t];
    }

    public int replay(int t) {
        Table table = tableAt(t);
        if (table == null) {
            return UNKNOWN;
        }
        Deal deal = table.deal;
        if (deal.state == NO_DEAL) {
            return STATE;
        }
        if (deal.calls.length > MOST_CALLS) {
            return 0;
        }
        aside.setTo(table);
        aside.begin(deal.seed, deal.size);
        int calls = deal.calls.length;
        for (int k = 0; k < calls; k++) {
            int call = deal.calls.at(k), what = call >> 10 & 7, s = call >> 8 & 3, a = call >> 2 & 63;
            if (what < LAY) {
                repeatAside(what, s, a, call & 3);
            } else if (what < CLAIM && aside.isOn()) {
                play(aside, quiet, what, s, a);
            } else if (what == CLAIM && aside.isEnd() && ends.bestOf(aside, s & 1) >= a) {
                aside.claimBy(quiet, s & 1, a);
            }
        }
        return aside.isLike(table) ? 1 : 0;
    }

    public int digest(int t) {
        Table table = tableAt(t);
        if (table == null) {
            return UNKNOWN;
        }
        int h = 17;
        for (int s = 0; s < SEATS; s++) {
            h = table.handOf(s).digestFrom(h);
        }
        h = table.trick.digestFrom(h);
        for (int side = 0; side < 2; side++) {
            h = 31 * (31 * h + table.deal.tricks[side]) + table.deal.points[side];
        }
        for (int s = 0; s < SEATS; s++) {
            h = 31 * h + table.sums[s];
        }
        return 31 * h + table.deal.turn;
    }

    public int finding(int i, int what) {
        if (what < 0 || what >= NOTE_PARTS) {
            return OUTSIDE;
        }
        return notes.findingAt(i, what);
    }

    public int trace(int i) {
        return notes.bodyAt(i);
    }

    public int forget() {
        int before = notes.bodyCount;
        notes.bodyCount = 0;
        return before;
    }

    public int count(int what) {
        switch (what) {
            case 0:
                return notes.tries;
            case 1:
                return notes.findingCount;
            case 2:
                return notes.number;
            case 3:
                return tablesThere();
            case 4:
                return gamesThere();
            default:
                return OUTSIDE;
        }
    }

    public int status(int t, int what) {
        Table table = tableAt(t);
        if (table == null) {
            return UNKNOWN;
        }
        Deal deal = table.deal;
        switch (what) {
            case 0:
                return deal.state;
            case 1:
                return deal.number;
            case 2:
                return table.matchHad;
            case 3:
                return deal.tricks[0] + deal.tricks[1];
            case 4:
                return deal.bidTricks;
            case 5:
                return deal.bidSuit;
            case 6:
                return deal.bidSeat;
            case 7:
                return deal.doublings;
            case 8:
                return keptCount[t];
            default:
                return OUTSIDE;
        }
    }

    private static boolean isGame(int g) {
        return g >= 0 && g < GAMES;
    }

    private static boolean isSeat(int s) {
        return s >= 0 && s < SEATS;
    }

    private static boolean isSide(int side) {
        return side == 0 || side == 1;
    }

    private static int packed(int what, int s, int a, int b) {
        return what << 10 | s << 8 | a << 2 | b;
    }

    private static void copy(int[] from, int[] to) {
        System.arraycopy(from, 0, to, 0, Math.min(from.length, to.length));
    }

    private static Game newGame(int type) {
        switch (type) {
            case MUST:
                return new Must(MUST);
            case VOID:
                return new VoidGame();
            case AUCTION:
                return new Auction();
            default:
                return new Follow(FOLLOW);
        }
    }

    private Game gameAt(int g) {
        return isGame(g) ? games[g] : null;
    }

    /** The table of a number, null where none is there. */
    private Table tableAt(int t) {
        if (t < 0 || t >= TABLES) {
            return null;
        }
        Table table = tables[t];
        return table == null || table.game == null ? null : table;
    }

    private int tablesThere() {
        int there = 0;
        for (int t = 0; t < TABLES; t++) {
            there += tableAt(t) == null ? 0 : 1;
        }
        return there;
    }

    private int gamesThere() {
        int there = 0;
        for (int g = 0; g < GAMES; g++) {
            there += games[g] == null ? 0 : 1;
        }
        return there;
    }

    /** Keeps a table as it is ahead of a call; the eldest of eight gives way. */
    private void keep(Table table) {
        int t = table.id;
        if (t < 0 || t >= TABLES) {
            return;
        }
        kept[t * MOST_KEPT + keptNext[t]].setTo(table);
        keptNext[t] = (keptNext[t] + 1) & (MOST_KEPT - 1);
        keptCount[t] = Math.min(MOST_KEPT, keptCount[t] + 1);
    }

    /** A TRY at a table with a deal on; what is laid at the table aside is not kept, for keep() passes over it. */
    private int play(Table table, Notes told, int what, int s, int i) {
        told.tries++;
        int finding = table.findingOf(s, i, true);
        int rule = finding == 0 ? table.ruleAgainst(told, s, i) : 0;
        if (rule != 0 && what == LAY) {
            finding = BARRED;
        }
        if (finding != 0) {
            told.find(finding, table.id, s, rule);
            return -10 - finding;
        }
        keep(table);
        table.deal.calls.add(packed(what, s, i, 0));
        int c = table.layCard(s, i, rule == 1);
        if (table.deal.turn == NONE) {
            table.endTrick(told);
        }
        return c;
    }

    private void repeatAside(int what, int s, int a, int b) {
        if (what == GIVE && aside.hasCard(a) && aside.refusalToGive(quiet, s, a) == 0) {
            aside.giveCard(s, a);
        } else if (what == BID && aside.refusalToBid(quiet, s, a, b) == 0) {
            aside.deal.setBid(a, b, s);
        } else if (what == DOUBLING && aside.canDouble(s)) {
            aside.deal.doublings++;
        }
    }

    /** What is said of all calls: tries, findings, bodies, numbers; a silent one keeps no findings and no bodies. */
    private static final class Notes {
        final boolean silent;
        final int[] bodies = new int[MOST_NOTES];
        final int[] findings = new int[MOST_NOTES * NOTE_PARTS];
        int bodyCount, findingCount, tries, number;

        Notes(boolean silent) {
            this.silent = silent;
        }

        void body(int body) {
            int place = bodyCount % MOST_NOTES;
            if (!silent && place >= 0) {
                bodies[place] = body;
                bodyCount++;
            }
        }

        void find(int finding, int t, int s, int rule) {
            int base = findingCount % MOST_NOTES * NOTE_PARTS;
            if (silent || base < 0) {
                return;
            }
            findings[base] = finding;
            findings[base + 1] = t;
            findings[base + 2] = s;
            findings[base + 3] = rule;
            findings[base + 4] = tries;
            findingCount++;
        }

        int bodyAt(int i) {
            if (i < 0 || i >= Math.min(bodyCount, MOST_NOTES)) {
                return NONE;
            }
            return bodies[(Math.max(0, bodyCount - MOST_NOTES) + i) % MOST_NOTES];
        }

        int findingAt(int i, int part) {
            if (i < 0 || i >= Math.min(findingCount, MOST_NOTES) || part < 0 || part >= NOTE_PARTS) {
                return NONE;
            }
            int base = (Math.max(0, findingCount - MOST_NOTES) + i) % MOST_NOTES * NOTE_PARTS;
            return findings[base + part];
        }
    }

    /** A row of numbers; a length of NONE tells a hand that is NOT DEALT from one of no places. */
    private static final class Row {
        final int[] items;
        int length;

        Row(int room) {
            items = new int[Math.max(0, room)];
        }

        int at(int i) {
            return i >= 0 && i < length && i < items.length ? items[i] : NONE;
        }

        /** Puts an item behind the others; a row that is full stays as it is. */
        void add(int item) {
            int end = Math.max(0, length);
            if (end < items.length) {
                items[end] = item;
                length = end + 1;
            }
        }

        int takeAt(int i) {
            if (i < 0 || i >= length || length > items.length) {
                return NONE;
            }
            int item = items[i];
            System.arraycopy(items, i + 1, items, i, length - 1 - i);
            length--;
            return item;
        }

        void putAt(int i, int item) {
            if (i >= 0 && i <= length && length < items.length) {
                System.arraycopy(items, i, items, i + 1, length - i);
                items[i] = item;
                length++;
            }
        }

        int placeOf(int item) {
            for (int i = 0; i < length && i < items.length; i++) {
                if (items[i] == item) {
                    return i;
                }
            }
            return NONE;
        }

        void swap(int i, int j) {
            if (i >= 0 && i < items.length && j >= 0 && j < items.length) {
                int item = items[i];
                items[i] = items[j];
                items[j] = item;
            }
        }

        void setTo(Row other) {
            copy(other.items, items);
            length = Math.min(other.length, items.length);
        }

        boolean isLike(Row other) {
            if (length != other.length) {
                return false;
            }
            for (int i = 0; i < length; i++) {
                if (at(i) != other.at(i)) {
                    return false;
                }
            }
            return true;
        }

        int digestFrom(int h) {
            int mixed = 31 * h + length;
            for (int i = 0; i < length && i < items.length; i++) {
                mixed = 31 * mixed + items[i];
            }
            return mixed;
        }
    }

    /** What one kind of game says; every body that begins is told to the notes. */
    private abstract static class Game {
        final int type;

        Game(int type) {
            this.type = type;
        }

        abstract int size(Notes notes, int pack);

        /** The RULE that bars a card of a hand, 0 where none does. */
        abstract int allows(Notes notes, Table table, Row hand, Row trick, int c);

        /** The place in the trick of the card that wins it. */
        abstract int wins(Notes notes, Table table, Row trick);

        abstract int score(Notes notes, Table table, Row trick, int winning);

        abstract int settle(Notes notes, Deal deal, int side, int points);

        /** The game whose word on what is allowed, and on what wins, is this one's. */
        abstract Follow player();
    }

    private static class Follow extends Game {
        Follow(int type) {
            super(type);
        }

        int size(Notes notes, int pack) {
            notes.body(11);
            return pack / 4;
        }

        int allows(Notes notes, Table table, Row hand, Row trick, int c) {
            notes.body(21);
            int led = table.colourOf(trick.at(0)), colour = table.colourOf(c);
            boolean isFree = colour == JOKER || trick.length == 0 || led == JOKER || colour == led;
            return isFree || table.firstOf(hand, led) == NONE ? 0 : 1;
        }

        int wins(Notes notes, Table table, Row trick) {
            notes.body(31);
            int place = table.firstOf(trick, JOKER);
            if (place == NONE) {
                place = table.strongestOf(trick, TRUMP, TRUMP);
            }
            if (place == NONE) {
                int led = table.colourOf(trick.at(0));
                place = table.strongestOf(trick, led, led);
            }
            return place;
        }

        int score(Notes notes, Table table, Row trick, int winning) {
            notes.body(41);
            return 1;
        }

        int settle(Notes notes, Deal deal, int side, int points) {
            notes.body(51);
            return points << deal.doublings;
        }

        Follow player() {
            return this;
        }
    }

    private static class Must extends Follow {
        Must(int type) {
            super(type);
        }

        int allows(Notes notes, Table table, Row hand, Row trick, int c) {
            notes.body(22);
            int rule = super.allows(notes, table, hand, trick, c);
            int led = table.colourOf(trick.at(0)), colour = table.colourOf(c);
            boolean isFree = colour == JOKER || trick.length == 0 || led == JOKER || colour == TRUMP;
            if (rule != 0 || isFree || table.firstOf(hand, led) != NONE) {
                return rule;
            }
            return table.firstOf(hand, TRUMP) == NONE ? 0 : 2;
        }

        int score(Notes notes, Table table, Row trick, int winning) {
            notes.body(42);
            int score = super.score(notes, table, trick, winning);
            for (int i = 0; i < trick.length; i++) {
                score += table.colourOf(trick.at(i)) == TRUMP ? 1 : 0;
            }
            return score;
        }
    }

    private static final class VoidGame extends Follow {
        VoidGame() {
            super(VOID);
        }

        int allows(Notes notes, Table table, Row hand, Row trick, int c) {
            notes.body(23);
            int rule = super.allows(notes, table, hand, trick, c);
            if (rule != 0 || trick.length != 0 || table.colourOf(c) != 3) {
                return rule;
            }
            for (int i = 0; i < hand.length; i++) {
                int colour = table.colourOf(hand.at(i));
                if (colour != 3 && colour != BLANK) {
                    return 3;
                }
            }
            return 0;
        }

        int wins(Notes notes, Table table, Row trick) {
            notes.body(32);
            int led = table.colourOf(trick.at(0));
            return led == JOKER ? 0 : table.strongestOf(trick, led, led);
        }

        int score(Notes notes, Table table, Row trick, int winning) {
            notes.body(43);
            int score = 0;
            for (int i = 0; i < trick.length; i++) {
                score -= (trick.at(i) & 3) == 3 ? 1 : 0;
            }
            return score;
        }
    }

    private static final class Auction extends Must {
        Auction() {
            super(AUCTION);
        }

        int wins(Notes notes, Table table, Row trick) {
            notes.body(33);
            int suit = table.deal.bidSuit;
            int place = NONE;
            if (suit != NONE && table.firstOf(trick, JOKER) == NONE) {
                place = table.strongestOf(trick, TRUMP, suit);
            }
            return place == NONE ? super.wins(notes, table, trick) : place;
        }

        int score(Notes notes, Table table, Row trick, int winning) {
            notes.body(44);
            int score = super.score(notes, table, trick, winning);
            return (winning & 3) == table.deal.bidSuit ? 2 * score : score;
        }

        int settle(Notes notes, Deal deal, int side, int points) {
            notes.body(52);
            int settled = points;
            if (deal.bidTricks > 0 && side == (deal.bidSeat & 1)) {
                int over = deal.tricks[deal.bidSeat & 1] - deal.bidTricks;
                settled = over >= 0 ? points + 10 * deal.bidTricks : 10 * over;
            }
            return super.settle(notes, deal, side, settled);
        }
    }

    private static final class Pair extends Game {
        final Follow first, second;

        Pair(Follow first, Follow second) {
            super(PAIR);
            this.first = first;
            this.second = second;
        }

        int size(Notes notes, int pack) {
            notes.body(12);
            return Math.max(1, pack / 8);
        }

        int allows(Notes notes, Table table, Row hand, Row trick, int c) {
            notes.body(24);
            return first.allows(notes, table, hand, trick, c);
        }

        int wins(Notes notes, Table table, Row trick) {
            notes.body(34);
            return first.wins(notes, table, trick);
        }

        int score(Notes notes, Table table, Row trick, int winning) {
            notes.body(45);
            return second.score(notes, table, trick, winning) + 1;
        }

        int settle(Notes notes, Deal deal, int side, int points) {
            notes.body(53);
            return second.settle(notes, deal, side, points);
        }

        Follow player() {
            return first;
        }
    }

    /** What belongs to one deal: bids, tricks, revokes, and the calls that made it what it is. */
    private static final class Deal {
        int state, number, turn, winner, bidTricks, bidSuit, bidSeat, doublings, played, seed, size;
        final int[] tricks = new int[2];
        final int[] points = new int[2];
        final int[] owners = new int[LONGEST_HAND];
        final int[] scores = new int[LONGEST_HAND];
        final int[] trickOf = new int[CARDS];
        final int[] denied = new int[SEATS * LONGEST_HAND];
        final Row calls = new Row(MOST_CALLS + 1);

        void clear() {
            state = NO_DEAL;
            number = 0;
            turn = NONE;
            winner = NONE;
            setBid(0, NONE, NONE);
            played = 0;
            Arrays.fill(tricks, 0);
            Arrays.fill(points, 0);
            Arrays.fill(trickOf, NONE);
            Arrays.fill(denied, NONE);
            calls.length = 0;
        }

        void setTo(Deal other) {
            state = other.state;
            number = other.number;
            turn = other.turn;
            winner = other.winner;
            setBid(other.bidTricks, other.bidSuit, other.bidSeat);
            doublings = other.doublings;
            played = other.played;
            seed = other.seed;
            size = other.size;
            copy(other.tricks, tricks);
            copy(other.points, points);
            copy(other.owners, owners);
            copy(other.scores, scores);
            copy(other.trickOf, trickOf);
            copy(other.denied, denied);
            calls.setTo(other.calls);
        }

        void setBid(int n, int suit, int s) {
            bidTricks = n;
            bidSuit = suit;
            bidSeat = s;
            doublings = 0;
        }

        boolean isAboveBid(int n, int suit) {
            return n > bidTricks || n == bidTricks && suit > bidSuit;
        }

        void addTrick(int side, int score) {
            if (played < LONGEST_HAND && isSide(side)) {
                owners[played] = side;
                scores[played] = score;
                played++;
                tricks[side]++;
                points[side] += score;
            }
        }

        void moveTrick(int k, int side) {
            if (k >= 0 && k < LONGEST_HAND && isSide(side)) {
                owners[k] = side;
                tricks[side]++;
                points[side] += scores[k];
                tricks[1 - side]--;
                points[1 - side] -= scores[k];
            }
        }

        void deny(int s, int colour) {
            if (isSeat(s) && played < LONGEST_HAND) {
                denied[s * LONGEST_HAND + played] = colour;
            }
        }

        /** Marks the eldest revoke in an earlier trick that a card of this colour shows: its trick, or NONE. */
        int findRevoke(int s, int colour) {
            for (int k = 0; k < played && k < LONGEST_HAND && isSeat(s); k++) {
                if (denied[s * LONGEST_HAND + k] == colour) {
                    denied[s * LONGEST_HAND + k] = FOUND;
                    return k;
                }
            }
            return NONE;
        }

        int revokesOf(int s, boolean foundAlone) {
            int revokes = 0;
            for (int k = 0; k < LONGEST_HAND && isSeat(s); k++) {
                int colour = denied[s * LONGEST_HAND + k];
                revokes += colour == FOUND || colour != NONE && !foundAlone ? 1 : 0;
            }
            return revokes;
        }
    }

    /** A table; one without a game is not there. */
    private static final class Table {
        final int id;
        Game game;
        int pack, matchSize, matchHad;
        final int[] colours = new int[CARDS];
        final int[] places = new int[CARDS];
        final boolean[] taken = new boolean[SEATS];
        final int[] sums = new int[SEATS];
        final Row rest = new Row(CARDS);
        final Row trick = new Row(SEATS);
        final Row layers = new Row(SEATS);
        final Row[] hands = new Row[SEATS];
        final Deal deal = new Deal();

        Table(int id) {
            this.id = id;
            for (int s = 0; s < SEATS; s++) {
                hands[s] = new Row(LONGEST_HAND);
            }
        }

        void setUp(int pack, Game game) {
            this.pack = Math.min(pack, CARDS);
            this.game = game;
            matchSize = MOST_DEALS;
            matchHad = 0;
            Arrays.fill(sums, 0);
            for (int c = 0; c < CARDS; c++) {
                colours[c] = c & 3;
            }
            for (int s = 0; s < SEATS; s++) {
                taken[s] = true;
            }
            gatherCards();
            deal.clear();
        }

        void setTo(Table other) {
            game = other.game;
            pack = other.pack;
            matchSize = other.matchSize;
            matchHad = other.matchHad;
            copy(other.colours, colours);
            copy(other.places, places);
            copy(other.sums, sums);
            rest.setTo(other.rest);
            trick.setTo(other.trick);
            layers.setTo(other.layers);
            for (int s = 0; s < SEATS; s++) {
                taken[s] = other.taken[s];
                hands[s].setTo(other.hands[s]);
            }
            deal.setTo(other.deal);
        }

        boolean isOn() {
            return deal.state == IS_ON;
        }

        boolean hasCard(int c) {
            return c >= 0 && c < pack && c < CARDS;
        }

        boolean isTaken(int s) {
            return isSeat(s) && taken[s];
        }

        Row handOf(int s) {
            return hands[s & 3];
        }

        int sizeBy(Notes notes) {
            return game == null ? 0 : game.size(notes, pack);
        }

        int colourOf(int c) {
            return c >= 0 && c < CARDS ? colours[c] : NONE;
        }

        /** The first place of a row with a card of a colour, NONE without one. */
        int firstOf(Row row, int colour) {
            for (int i = 0; i < row.length && i < row.items.length; i++) {
                int c = row.items[i];
                if (c >= 0 && c < CARDS && colours[c] == colour) {
                    return i;
                }
            }
            return NONE;
        }

        /** The first place of a row with a card of the greatest RANK among two colours, NONE without one. */
        int strongestOf(Row row, int one, int other) {
            int place = NONE, rank = NONE;
            for (int i = 0; i < row.length && i < row.items.length; i++) {
                int c = row.items[i];
                boolean counts = c >= 0 && c < CARDS && (colours[c] == one || colours[c] == other);
                if (counts && c / 4 > rank) {
                    place = i;
                    rank = c / 4;
                }
            }
            return place;
        }

        int cardsWon(int side) {
            int cards = 0;
            for (int c = 0; c < CARDS; c++) {
                cards += places[c] == IS_WON + side ? 1 : 0;
            }
            return cards;
        }

        private void gatherCards() {
            rest.length = 0;
            trick.length = 0;
            layers.length = 0;
            for (int c = 0; c < pack; c++) {
                rest.add(c);
            }
            Arrays.fill(places, IN_REST);
            for (int s = 0; s < SEATS; s++) {
                hands[s].length = NONE;
            }
        }

        void takeHandAway(int s) {
            Row hand = handOf(s);
            for (int i = 0; i < hand.length; i++) {
                moveTo(hand.at(i), IN_REST);
                rest.add(hand.at(i));
            }
            hand.length = NONE;
        }

        private void moveTo(int c, int place) {
            if (c >= 0 && c < CARDS) {
                places[c] = place;
            }
        }

        /** A deal of n cards a hand begins; its number stays to be told. */
        void begin(int seed, int n) {
            gatherCards();
            int x = seed;
            for (int i = pack - 1; i >= 1; i--) {
                x = x * 1664525 + 1013904223;
                rest.swap(i, (x >>> 8) % (i + 1));
            }
            deal.clear();
            deal.state = IS_ON;
            deal.seed = seed;
            deal.size = n;
            dealHands(n);
            deal.turn = nextAble(0);
        }

        private void dealHands(int n) {
            int from = 0;
            for (int s = 0; s < SEATS; s++) {
                if (isTaken(s)) {
                    hands[s].length = 0;
                    for (int k = 0; k < n && from < rest.length; k++) {
                        hands[s].add(rest.at(from));
                        moveTo(rest.at(from), IN_HAND + s);
                        from++;
                    }
                }
            }
            int left = rest.length - from;
            for (int i = 0; i < left; i++) {
                rest.swap(i, from + i);
            }
            rest.length = left;
        }

        private boolean canLay(int s) {
            Row hand = handOf(s);
            for (int i = 0; i < hand.length; i++) {
                if (colourOf(hand.at(i)) != BLANK) {
                    return true;
                }
            }
            return false;
        }

        /** The first seat, from one on and around, that has laid none to the trick and can lay; NONE. */
        private int nextAble(int from) {
            for (int k = 0; k < SEATS; k++) {
                int s = (from + k) & 3;
                if (layers.placeOf(s) == NONE && canLay(s)) {
                    return s;
                }
            }
            return NONE;
        }

        private boolean isBegun() {
            return deal.played > 0 || trick.length > 0;
        }

        int refusalToGive(Notes quiet, int s, int c) {
            if (handOf(s).length >= sizeBy(quiet)) {
                return OUTSIDE;
            }
            boolean isRefused = !isOn() || isBegun() || !isTaken(s) || !hasCard(c) || places[c] != IN_REST;
            return isRefused ? STATE : 0;
        }

        /** Gives a card of the rest to a hand: how many this has then. */
        int giveCard(int s, int c) {
            rest.takeAt(rest.placeOf(c));
            handOf(s).add(c);
            moveTo(c, IN_HAND + s);
            deal.turn = nextAble(0);
            return handOf(s).length;
        }

        int refusalToBid(Notes quiet, int s, int n, int suit) {
            if (n < 1 || n > sizeBy(quiet) || suit < 0 || suit > 3) {
                return OUTSIDE;
            }
            boolean isAuction = game != null && game.type == AUCTION;
            boolean isRefused = !isAuction || !isOn() || isBegun() || !isTaken(s) || !deal.isAboveBid(n, suit);
            return isRefused ? STATE : 0;
        }

        /** The document's list for a doubling does not ask whether the deal is still on. */
        boolean canDouble(int s) {
            boolean isBidders = (deal.bidSeat & 1) == (s & 1);
            boolean isTime = deal.doublings == 0 && !isBidders || deal.doublings == 1 && isBidders;
            return deal.bidTricks > 0 && !isBegun() && isTaken(s) && isTime;
        }

        /** The FINDING against a play, of those that the game is not asked for; 0 for none. */
        int findingOf(int s, int i, boolean inTurn) {
            Row hand = handOf(s);
            if (!isTaken(s)) {
                return NOBODY;
            }
            if (hand.length < 0) {
                return NOT_DEALT;
            }
            if (i < 0 || i >= hand.length) {
                return NO_CARD;
            }
            if (inTurn && deal.turn != s) {
                return TURN;
            }
            return colourOf(hand.at(i)) == BLANK ? NOT_SO : 0;
        }

        int ruleAgainst(Notes notes, int s, int i) {
            Row hand = handOf(s);
            return game == null ? 0 : game.allows(notes, this, hand, trick, hand.at(i));
        }

        /** Lays a card and passes the turn on; nobody has it when the trick is over. */
        int layCard(int s, int i, boolean isRevoke) {
            if (isRevoke) {
                deal.deny(s, colourOf(trick.at(0)));
            }
            int c = handOf(s).takeAt(i);
            trick.add(c);
            layers.add(s);
            moveTo(c, IN_TRICK);
            if (c >= 0 && c < CARDS) {
                deal.trickOf[c] = deal.played;
            }
            putRight(s, deal.findRevoke(s, colourOf(c)));
            deal.turn = nextAble(s + 1);
            return c;
        }

        /** A trick of a revoke that was found goes to the other side, if the seat's side has it. */
        private void putRight(int s, int k) {
            int side = s & 1;
            if (k < 0 || k >= LONGEST_HAND || deal.owners[k] != side) {
                return;
            }
            deal.moveTrick(k, 1 - side);
            for (int c = 0; c < CARDS; c++) {
                if (deal.trickOf[c] == k) {
                    places[c] = IS_WON + 1 - side;
                }
            }
        }

        void endTrick(Notes notes) {
            if (game == null) {
                return;
            }
            int place = game.wins(notes, this, trick);
            int s = layers.at(place), side = s & 1;
            deal.addTrick(side, game.score(notes, this, trick, trick.at(place)));
            deal.winner = s;
            for (int i = 0; i < trick.length; i++) {
                moveTo(trick.at(i), IS_WON + side);
            }
            trick.length = 0;
            layers.length = 0;
            deal.turn = nextAble(s);
            if (deal.turn == NONE) {
                endDeal(notes);
            }
        }

        private void endDeal(Notes notes) {
            deal.state = HAS_ENDED;
            deal.turn = NONE;
            for (int side = 0; side < 2 && game != null; side++) {
                share(notes, side, game.settle(notes, deal, side, deal.points[side]));
            }
        }

        private void share(Notes notes, int side, int settled) {
            int sharers = (isTaken(side) ? 1 : 0) + (isTaken(side + 2) ? 1 : 0);
            if (sharers == 0) {
                notes.find(SHARED, id, side, 0);
                return;
            }
            for (int s = side; s < SEATS; s += 2) {
                sums[s] += isTaken(s) ? settled / sharers : 0;
            }
        }

        boolean isEnd() {
            boolean isEnd = isOn() && trick.length == 0;
            for (int s = 0; s < SEATS && isEnd; s++) {
                isEnd = hands[s].length <= END_CARDS && firstOf(hands[s], BLANK) == NONE;
            }
            return isEnd;
        }

        void claimBy(Notes notes, int side, int n) {
            int toCome = 0;
            for (int s = 0; s < SEATS; s++) {
                Row hand = hands[s];
                toCome = Math.max(toCome, hand.length);
                for (int i = 0; i < hand.length; i++) {
                    moveTo(hand.at(i), IS_WON + side);
                }
                hand.length = Math.min(hand.length, 0);
            }
            deal.tricks[side] += n;
            deal.points[side] += n;
            deal.tricks[1 - side] += toCome - n;
            deal.points[1 - side] += toCome - n;
            endDeal(notes);
        }

        boolean isLike(Table other) {
            boolean isLike = rest.isLike(other.rest);
            for (int side = 0; side < 2; side++) {
                isLike = isLike && deal.tricks[side] == other.deal.tricks[side];
                isLike = isLike && deal.points[side] == other.deal.points[side];
            }
            for (int s = 0; s < SEATS; s++) {
                isLike = isLike && hands[s].isLike(other.hands[s]);
            }
            return isLike;
        }
    }

    /** The best play of an end for a side, by trying all; what was found at the starts of tricks is kept. */
    private static final class Ends {
        /** How a set of the four places of a hand stands among those of as many places. */
        private static final int[] RANKS = {0, 0, 1, 0, 2, 1, 2, 0, 3, 3, 4, 1, 5, 2, 3, 0};
        private static final int MOST_LAID = SEATS * END_CARDS, MOST_STARTS = END_CARDS * SEATS * 1296;

        final Notes quiet = new Notes(true);
        final int[] bounds = new int[MOST_STARTS];
        final int[] sures = new int[MOST_STARTS];
        final int[] bits = new int[CARDS];
        final Row[] hands = new Row[SEATS];
        final Row[] tricks = new Row[END_CARDS + 1];
        final Row[] layers = new Row[END_CARDS + 1];
        Table table;
        Follow game;
        int side, toCome, at, won, stamp;

        Ends() {
            for (int s = 0; s < SEATS; s++) {
                hands[s] = new Row(END_CARDS);
            }
            for (int k = 0; k <= END_CARDS; k++) {
                tricks[k] = new Row(SEATS);
                layers[k] = new Row(SEATS);
            }
        }

        void begin(Table table, int side) {
            this.table = table;
            this.side = side;
            game = table.game == null ? null : table.game.player();
            stamp++;
            at = 0;
            won = 0;
            toCome = 0;
            for (int s = 0; s < SEATS; s++) {
                hands[s].setTo(table.handOf(s));
                toCome = Math.max(toCome, hands[s].length);
                for (int i = 0; i < hands[s].length; i++) {
                    setBit(hands[s].at(i), 1 << i);
                }
            }
            for (int k = 0; k <= END_CARDS; k++) {
                tricks[k].length = 0;
                layers[k].length = 0;
            }
        }

        private void setBit(int c, int bit) {
            if (c >= 0 && c < CARDS) {
                bits[c] = bit;
            }
        }

        int bestOf(Table table, int side) {
            begin(table, side);
            return bestFrom(table.deal.turn, 0);
        }

        int lineCard(Table table, int side, int k) {
            begin(table, side);
            int seat = table.deal.turn, best = bestFrom(seat, 0);
            for (int laid = 0; laid < MOST_LAID && isSeat(seat); laid++) {
                int i = linePlace(seat, best - won, laid);
                if (laid == k) {
                    return hands[seat].at(i);
                }
                seat = forward(seat, i);
            }
            return NONE;
        }

        int bestFrom(int seat, int depth) {
            int best = toCome - at;
            while (best > 0 && !reaches(seat, best, depth)) {
                best--;
            }
            return best;
        }

        /** Whether the side can be sure of so many of the tricks from here on, the seat having the turn. */
        private boolean reaches(int seat, int need, int depth) {
            if (need <= 0 || need > toCome - at || !isSeat(seat) || depth >= MOST_LAID || game == null) {
                return need <= 0;
            }
            int key = keyOf(seat), known = boundsAt(key), reachable = known >> 3, unreachable = known & 7;
            if (need <= reachable || need >= unreachable) {
                return need <= reachable;
            }
            // One card is enough for the side's own seats; those of the other side must fail with all of theirs.
            boolean isOwn = (seat & 1) == side, reached = !isOwn;
            int length = hands[seat].length;
            for (int i = 0; i < length && reached != isOwn; i++) {
                if (lets(seat, i)) {
                    int before = won, next = forward(seat, i);
                    reached = reaches(next, need - won + before, depth + 1);
                    back(seat, i, before);
                }
            }
            if (key != NONE) {
                bounds[key] = stamp << 6 | (reached ? need << 3 | unreachable : reachable << 3 | need);
            }
            return reached;
        }

        /** Eight times the tricks that are known to be reached, and the fewest that are known not to be. */
        private int boundsAt(int key) {
            boolean isKnown = key >= 0 && key < MOST_STARTS && bounds[key] >> 6 == stamp;
            return isKnown ? bounds[key] & 63 : toCome - at + 1;
        }

        /** The least place that keeps what is best from here on, NONE without one. */
        private int linePlace(int seat, int best, int depth) {
            boolean isOwn = (seat & 1) == side;
            int length = hands[seat & 3].length;
            for (int i = 0; i < length; i++) {
                if (lets(seat, i)) {
                    int before = won, next = forward(seat, i), need = best - won + before;
                    boolean keeps = isOwn ? reaches(next, need, depth + 1) : !reaches(next, need + 1, depth + 1);
                    back(seat, i, before);
                    if (keeps) {
                        return i;
                    }
                }
            }
            return NONE;
        }

        /** The tricks from here on that the side has at least, if its seats lay by the line's rule. */
        private int sureFrom(int seat, int depth) {
            if (!isSeat(seat) || depth >= MOST_LAID) {
                return 0;
            }
            int key = keyOf(seat);
            if (key != NONE && sures[key] >> 3 == stamp) {
                return sures[key] & 7;
            }
            boolean isOwn = (seat & 1) == side;
            int byLine = isOwn ? linePlace(seat, bestFrom(seat, depth), depth) : NONE;
            int least = toCome - at, length = hands[seat].length;
            for (int i = 0; i < length; i++) {
                if (isOwn ? i == byLine : lets(seat, i)) {
                    int before = won, next = forward(seat, i);
                    least = Math.min(least, won - before + sureFrom(next, depth + 1));
                    back(seat, i, before);
                }
            }
            if (key != NONE) {
                sures[key] = stamp << 3 | least;
            }
            return least;
        }

        private boolean lets(int seat, int i) {
            Row hand = hands[seat & 3];
            return game != null && game.allows(quiet, table, hand, tricks[at], hand.at(i)) == 0;
        }

        /** A number for what the start of a trick depends on; NONE within a trick. */
        private int keyOf(int seat) {
            if (at >= END_CARDS || tricks[at].length != 0) {
                return NONE;
            }
            int key = at * SEATS + seat;
            for (int s = 0; s < SEATS; s++) {
                Row hand = hands[s];
                int set = 0;
                for (int i = 0; i < hand.length; i++) {
                    int c = hand.at(i);
                    set |= c >= 0 && c < CARDS ? bits[c] : 0;
                }
                key = key * 6 + RANKS[set & 15];
            }
            return key >= 0 && key < MOST_STARTS ? key : NONE;
        }

        private int nextAble(int from) {
            for (int k = 0; k < SEATS; k++) {
                int s = (from + k) & 3;
                if (hands[s].length > 0 && layers[at].placeOf(s) == NONE) {
                    return s;
                }
            }
            return NONE;
        }

        /** Lays a card: the seat that has the turn then, NONE at the end. */
        private int forward(int seat, int i) {
            Row trick = tricks[at], layer = layers[at];
            trick.add(hands[seat & 3].takeAt(i));
            layer.add(seat);
            int next = nextAble(seat + 1);
            if (next != NONE || game == null) {
                return next;
            }
            int winner = layer.at(game.wins(quiet, table, trick));
            won += (winner & 1) == side ? 1 : 0;
            at = Math.min(at + 1, END_CARDS);
            return nextAble(winner);
        }

        /** Takes back the card that forward() laid, and what was won by it. */
        private void back(int seat, int i, int wonBefore) {
            if (tricks[at].length == 0 && at > 0) {
                at--;
            }
            int c = tricks[at].takeAt(tricks[at].length - 1);
            layers[at].takeAt(layers[at].length - 1);
            hands[seat & 3].putAt(i, c);
            won = wonBefore;
        }
    }
}
