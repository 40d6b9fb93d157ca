import java.util.ArrayList;
import java.util.Arrays;
import java.util.HashMap;
import java.util.List;
import java.util.Map;

/** The document told once more, with lists and copies and no thought of speed, to compare the class with. */
final class Model {
    static final int NONE = -1, UNKNOWN = -2, OUTSIDE = -3, STATE = -4;

    /** A game: its kind, and the two of a pair. */
    record G(int kind, G first, G second) {
    }

    /** A trick that is over. */
    static final class Won {
        int side;
        int score;
        List<Integer> cards = new ArrayList<>();

        Won copied() {
            Won w = new Won();
            w.side = side;
            w.score = score;
            w.cards = new ArrayList<>(cards);
            return w;
        }
    }

    /** A revoke: the seat, the colour that it denies, the number of its trick, whether it was found. */
    static final class Rev {
        int seat;
        int colour;
        int trick;
        boolean found;

        Rev copied() {
            Rev r = new Rev();
            r.seat = seat;
            r.colour = colour;
            r.trick = trick;
            r.found = found;
            return r;
        }
    }

    static final class T {
        G g;
        int p;
        int[] kind;
        boolean[] taken = {true, true, true, true};
        List<Integer> rest = new ArrayList<>();
        List<List<Integer>> hands = new ArrayList<>(Arrays.asList(null, null, null, null));
        List<Integer> trick = new ArrayList<>();
        List<Integer> trickSeats = new ArrayList<>();
        int[] sums = new int[4];
        int matchN = 200;
        int matchHad;
        int state;
        int number;
        int turn = NONE;
        int winner = NONE;
        int bidN;
        int bidSuit = NONE;
        int bidSeat = NONE;
        int d;
        int seed;
        int n;
        List<Won> won = new ArrayList<>();
        List<Rev> revs = new ArrayList<>();
        int[] claimed = new int[2];
        List<List<Integer>> claimedCards = new ArrayList<>(List.of(new ArrayList<>(), new ArrayList<>()));
        List<int[]> log = new ArrayList<>();

        T copied() {
            T c = new T();
            c.g = g;
            c.p = p;
            c.kind = kind.clone();
            c.taken = taken.clone();
            c.rest = new ArrayList<>(rest);
            for (int s = 0; s < 4; s++) {
                c.hands.set(s, hands.get(s) == null ? null : new ArrayList<>(hands.get(s)));
            }
            c.trick = new ArrayList<>(trick);
            c.trickSeats = new ArrayList<>(trickSeats);
            c.sums = sums.clone();
            c.matchN = matchN;
            c.matchHad = matchHad;
            c.state = state;
            c.number = number;
            c.turn = turn;
            c.winner = winner;
            c.bidN = bidN;
            c.bidSuit = bidSuit;
            c.bidSeat = bidSeat;
            c.d = d;
            c.seed = seed;
            c.n = n;
            won.forEach(w -> c.won.add(w.copied()));
            revs.forEach(r -> c.revs.add(r.copied()));
            c.claimed = claimed.clone();
            c.claimedCards.set(0, new ArrayList<>(claimedCards.get(0)));
            c.claimedCards.set(1, new ArrayList<>(claimedCards.get(1)));
            c.log = new ArrayList<>(log);
            return c;
        }

        int colour(int c) {
            return kind[c] == 0 ? c % 4 : kind[c] + 3;
        }

        int led(List<Integer> cards) {
            return colour(cards.get(0));
        }

        boolean has(List<Integer> cards, int colour) {
            return cards.stream().anyMatch(c -> colour(c) == colour);
        }

        boolean canLay(int s) {
            return hands.get(s) != null && hands.get(s).stream().anyMatch(c -> kind[c] != 3);
        }

        int tricks(int side) {
            return (int) won.stream().filter(w -> w.side == side).count() + claimed[side];
        }

        int points(int side) {
            return won.stream().filter(w -> w.side == side).mapToInt(w -> w.score).sum() + claimed[side];
        }

        boolean laid() {
            return !won.isEmpty() || !trick.isEmpty();
        }
    }

    final G[] games = new G[6];
    final T[] tables = new T[4];
    final List<List<T>> history = List.of(new ArrayList<>(), new ArrayList<>(), new ArrayList<>(), new ArrayList<>());
    List<Integer> trace = new ArrayList<>();
    List<int[]> findings = new ArrayList<>();
    int tries;
    int numbers;
    boolean silent;

    private T at(int t) {
        return t < 0 || t > 3 ? null : tables[t];
    }

    private void body(int b) {
        if (!silent) {
            trace.add(b);
        }
    }

    private void found(int f, int t, int s, int rule) {
        if (!silent) {
            findings.add(new int[] {f, t, s, rule, tries});
        }
    }

    // what games say

    private int size(T b) {
        body(b.g.kind == 4 ? 12 : 11);
        return b.g.kind == 4 ? Math.max(1, b.p / 8) : b.p / 4;
    }

    private int sizeSilently(T b) {
        boolean before = silent;
        silent = true;
        int size = size(b);
        silent = before;
        return size;
    }

    private int allows(G g, T b, List<Integer> hand, List<Integer> trick, int c) {
        int colour = b.colour(c);
        switch (g.kind) {
            case 0: {
                body(21);
                if (colour == 5 || trick.isEmpty() || b.led(trick) == 5 || colour == b.led(trick)) {
                    return 0;
                }
                return b.has(hand, b.led(trick)) ? 1 : 0;
            }
            case 1:
            case 3: {
                body(22);
                int rule = allows(new G(0, null, null), b, hand, trick, c);
                if (rule == 0 && colour != 5 && !trick.isEmpty() && b.led(trick) != 5 && !b.has(hand, b.led(trick))
                        && b.has(hand, 4) && colour != 4) {
                    return 2;
                }
                return rule;
            }
            case 2: {
                body(23);
                int rule = allows(new G(0, null, null), b, hand, trick, c);
                boolean other = hand.stream().anyMatch(x -> b.kind[x] != 3 && b.colour(x) != 3);
                return rule == 0 && trick.isEmpty() && colour == 3 && other ? 3 : rule;
            }
            default:
                body(24);
                return allows(g.first, b, hand, trick, c);
        }
    }

    private Integer top(T b, List<Integer> trick, int... colours) {
        Integer top = null;
        for (int c : trick) {
            boolean in = Arrays.stream(colours).anyMatch(k -> k == b.colour(c));
            if (in && (top == null || c / 4 > top / 4)) {
                top = c;
            }
        }
        return top;
    }

    private int wins(G g, T b, List<Integer> trick) {
        switch (g.kind) {
            case 2:
                body(32);
                return b.led(trick) == 5 ? trick.get(0) : top(b, trick, b.led(trick));
            case 3:
                body(33);
                if (b.bidSuit != NONE && !b.has(trick, 5) && top(b, trick, 4, b.bidSuit) != null) {
                    return top(b, trick, 4, b.bidSuit);
                }
                return wins(new G(0, null, null), b, trick);
            case 4:
                body(34);
                return wins(g.first, b, trick);
            default:
                body(31);
                for (int c : trick) {
                    if (b.colour(c) == 5) {
                        return c;
                    }
                }
                Integer trump = top(b, trick, 4);
                return trump != null ? trump : top(b, trick, b.led(trick));
        }
    }

    private int score(G g, T b, List<Integer> trick, int c) {
        switch (g.kind) {
            case 0:
                body(41);
                return 1;
            case 1:
                body(42);
                return score(new G(0, null, null), b, trick, c)
                        + (int) trick.stream().filter(x -> b.kind[x] == 1).count();
            case 2:
                body(43);
                return -(int) trick.stream().filter(x -> x % 4 == 3).count();
            case 3:
                body(44);
                return score(new G(1, null, null), b, trick, c) * (c % 4 == b.bidSuit ? 2 : 1);
            default:
                body(45);
                return score(g.second, b, trick, c) + 1;
        }
    }

    private int settle(G g, T b, int side, int points) {
        if (g.kind == 4) {
            body(53);
            return settle(g.second, b, side, points);
        }
        int settled = points;
        if (g.kind == 3) {
            body(52);
            if (b.bidN > 0 && b.bidSeat % 2 == side) {
                int m = b.tricks(side);
                settled = m >= b.bidN ? points + 10 * b.bidN : 10 * (m - b.bidN);
            }
        }
        body(51);
        return settled * new int[] {1, 2, 4}[b.d];
    }

    // tables and games

    int game(int g, int kind, int a, int b) {
        if (g < 0 || g > 5) {
            return UNKNOWN;
        }
        if (kind == 4 && (a < 0 || a > 5 || b < 0 || b > 5 || games[a] == null || games[b] == null)) {
            return UNKNOWN;
        }
        if (kind < 0 || kind > 4) {
            return OUTSIDE;
        }
        if (kind == 4 && (games[a].kind == 4 || games[b].kind == 4)) {
            return STATE;
        }
        games[g] = kind == 4 ? new G(4, games[a], games[b]) : new G(kind, null, null);
        return 1;
    }

    int kindOf(int g) {
        return g < 0 || g > 5 || games[g] == null ? UNKNOWN : games[g].kind;
    }

    int table(int t, int pack, int g) {
        if (t < 0 || t > 3 || g < 0 || g > 5 || games[g] == null) {
            return UNKNOWN;
        }
        if (pack < 4 || pack > 60 || pack % 4 != 0) {
            return OUTSIDE;
        }
        T b = new T();
        b.g = games[g];
        b.p = pack;
        b.kind = new int[pack];
        for (int c = 0; c < pack; c++) {
            b.rest.add(c);
        }
        tables[t] = b;
        history.get(t).clear();
        return 1;
    }

    private boolean noSeat(int s) {
        return s < 0 || s > 3;
    }

    private boolean noSide(int side) {
        return side != 0 && side != 1;
    }

    int seat(int t, int s, boolean taken) {
        T b = at(t);
        if (b == null || noSeat(s)) {
            return UNKNOWN;
        }
        if (b.state == 1) {
            return STATE;
        }
        int was = b.taken[s] ? 1 : 0;
        if (!taken || was == 0) {
            if (b.hands.get(s) != null) {
                b.rest.addAll(b.hands.get(s));
            }
            b.hands.set(s, null);
        }
        b.taken[s] = taken;
        return was;
    }

    int kind(int t, int c, int kind) {
        T b = at(t);
        if (b == null || c < 0 || c >= b.p) {
            return UNKNOWN;
        }
        if (kind < 0 || kind > 3) {
            return OUTSIDE;
        }
        if (!b.rest.contains(c)) {
            return STATE;
        }
        int was = b.kind[c];
        b.kind[c] = kind;
        return was;
    }

    int card(int t, int c) {
        T b = at(t);
        if (b == null || c < 0 || c >= b.p) {
            return UNKNOWN;
        }
        if (b.rest.contains(c)) {
            return 0;
        }
        for (int s = 0; s < 4; s++) {
            if (b.hands.get(s) != null && b.hands.get(s).contains(c)) {
                return 1 + s;
            }
        }
        if (b.trick.contains(c)) {
            return 5;
        }
        for (Won w : b.won) {
            if (w.cards.contains(c)) {
                return 6 + w.side;
            }
        }
        return b.claimedCards.get(0).contains(c) ? 6 : 7;
    }

    int match(int t, int n) {
        T b = at(t);
        if (b == null) {
            return UNKNOWN;
        }
        if (n < 1 || n > 200) {
            return OUTSIDE;
        }
        if (b.state == 1) {
            return STATE;
        }
        int had = b.matchHad;
        b.matchHad = 0;
        b.matchN = n;
        b.sums = new int[4];
        return had;
    }

    // deals

    private void keep(int t) {
        history.get(t).add(tables[t].copied());
        if (history.get(t).size() > 8) {
            history.get(t).remove(0);
        }
    }

    private void begin(T b, int seed, int n) {
        T fresh = new T();
        b.rest = new ArrayList<>();
        for (int c : Mixed.cards(b.p, seed)) {
            b.rest.add(c);
        }
        for (int s = 0; s < 4; s++) {
            b.hands.set(s, b.taken[s] ? new ArrayList<>() : null);
            for (int k = 0; k < n && b.taken[s] && !b.rest.isEmpty(); k++) {
                b.hands.get(s).add(b.rest.remove(0));
            }
        }
        b.trick = fresh.trick;
        b.trickSeats = fresh.trickSeats;
        b.winner = NONE;
        b.bidN = 0;
        b.bidSuit = NONE;
        b.bidSeat = NONE;
        b.d = 0;
        b.won = fresh.won;
        b.revs = fresh.revs;
        b.claimed = fresh.claimed;
        b.claimedCards = fresh.claimedCards;
        b.log = fresh.log;
        b.state = 1;
        b.seed = seed;
        b.n = n;
        b.turn = next(b, 0);
    }

    private int next(T b, int from) {
        for (int k = 0; k < 4; k++) {
            int s = (from + k) % 4;
            if (!b.trickSeats.contains(s) && b.canLay(s)) {
                return s;
            }
        }
        return NONE;
    }

    int deal(int t, int seed, int n) {
        T b = at(t);
        if (b == null) {
            return UNKNOWN;
        }
        if (n < -1 || n > sizeSilently(b)) {
            return OUTSIDE;
        }
        if (b.state == 1 && b.turn != NONE || b.matchHad >= b.matchN) {
            return STATE;
        }
        keep(t);
        int size = size(b);
        begin(b, seed, n == -1 ? size : n);
        b.matchHad++;
        numbers++;
        b.number = numbers;
        return numbers;
    }

    /** What a call of a deal answers, when it goes; refused or met by a finding below 0, at any table. */
    private int give(T b, int s, int c) {
        List<Integer> hand = b.hands.get(s);
        if (hand != null && hand.size() >= sizeSilently(b)) {
            return OUTSIDE;
        }
        if (b.state != 1 || b.laid() || !b.taken[s] || !b.rest.contains(c)) {
            return STATE;
        }
        b.rest.remove(Integer.valueOf(c));
        hand.add(c);
        b.turn = next(b, 0);
        return hand.size();
    }

    private int bid(T b, int s, int n, int suit) {
        if (n < 1 || n > sizeSilently(b) || suit < 0 || suit > 3) {
            return OUTSIDE;
        }
        boolean above = n > b.bidN || n == b.bidN && suit > b.bidSuit;
        if (b.g.kind != 3 || b.state != 1 || b.laid() || !b.taken[s] || !above) {
            return STATE;
        }
        b.bidN = n;
        b.bidSuit = suit;
        b.bidSeat = s;
        b.d = 0;
        return 1;
    }

    private int doubled(T b, int s) {
        if (b.bidN == 0 || b.laid() || !b.taken[s] || b.d == 2) {
            return STATE;
        }
        boolean bidders = b.bidSeat % 2 == s % 2;
        if (bidders != (b.d == 1)) {
            return STATE;
        }
        b.d++;
        return b.d;
    }

    private int claim(T b, int t, int side, int n) {
        if (best(b, side) < n) {
            return 0;
        }
        int k = 0;
        for (int s = 0; s < 4; s++) {
            if (b.hands.get(s) != null) {
                k = Math.max(k, b.hands.get(s).size());
                b.claimedCards.get(side).addAll(b.hands.get(s));
                b.hands.get(s).clear();
            }
        }
        b.claimed[side] += n;
        b.claimed[1 - side] += k - n;
        end(b, t);
        return 1;
    }

    private void end(T b, int t) {
        b.state = 2;
        b.turn = NONE;
        for (int side = 0; side < 2; side++) {
            int settled = settle(b.g, b, side, b.points(side));
            int seats = (b.taken[side] ? 1 : 0) + (b.taken[side + 2] ? 1 : 0);
            if (seats == 0) {
                found(7, t, side, 0);
            }
            for (int s = side; s < 4; s += 2) {
                if (b.taken[s]) {
                    b.sums[s] += settled / seats;
                }
            }
        }
    }

    private int play(T b, int t, int s, int i, boolean anyway) {
        int f = 0;
        int rule = 0;
        List<Integer> hand = b.hands.get(s);
        if (!b.taken[s]) {
            f = 1;
        } else if (hand == null) {
            f = 2;
        } else if (i < 0 || i >= hand.size()) {
            f = 3;
        } else if (b.turn != s) {
            f = 4;
        } else if (b.kind[hand.get(i)] == 3) {
            f = 5;
        } else {
            rule = allows(b.g, b, hand, b.trick, hand.get(i));
            f = rule != 0 && !anyway ? 6 : 0;
        }
        if (f != 0) {
            found(f, t, s, rule);
            return -10 - f;
        }
        int c = hand.remove(i);
        if (rule == 1) {
            Rev r = new Rev();
            r.seat = s;
            r.colour = b.led(b.trick);
            r.trick = b.won.size();
            b.revs.add(r);
        }
        b.trick.add(c);
        b.trickSeats.add(s);
        show(b, s, b.colour(c));
        b.turn = next(b, s + 1);
        if (b.turn == NONE) {
            over(b, t);
        }
        return c;
    }

    private void show(T b, int s, int colour) {
        for (Rev r : b.revs) {
            if (r.seat == s && r.colour == colour && !r.found && r.trick < b.won.size()) {
                r.found = true;
                Won w = b.won.get(r.trick);
                if (w.side == s % 2) {
                    w.side = 1 - w.side;
                }
                return;
            }
        }
    }

    private void over(T b, int t) {
        int c = wins(b.g, b, b.trick);
        int s = b.trickSeats.get(b.trick.indexOf(c));
        Won w = new Won();
        w.side = s % 2;
        w.score = score(b.g, b, b.trick, c);
        w.cards = b.trick;
        b.won.add(w);
        b.winner = s;
        b.trick = new ArrayList<>();
        b.trickSeats = new ArrayList<>();
        b.turn = next(b, s);
        if (b.turn == NONE) {
            end(b, t);
        }
    }

    private int done(T b, int t, int[] call) {
        switch (call[0]) {
            case 0:
                return give(b, call[1], call[2]);
            case 1:
                return bid(b, call[1], call[2], call[3]);
            case 2:
                return doubled(b, call[1]);
            case 3:
                return b.state == 1 ? play(b, t, call[1], call[2], false) : STATE;
            case 4:
                return b.state == 1 ? play(b, t, call[1], call[2], true) : STATE;
            default:
                return isEnd(b) ? claim(b, t, call[1], call[2]) : STATE;
        }
    }

    private int doneAndKept(int t, int... call) {
        T before = tables[t].copied();
        int answer = done(tables[t], t, call);
        if (answer >= 0) {
            tables[t].log.add(call);
            if (call[0] != 5 || answer == 1) {
                history.get(t).add(before);
                if (history.get(t).size() > 8) {
                    history.get(t).remove(0);
                }
            }
        }
        return answer;
    }

    int give(int t, int s, int c) {
        return at(t) == null || noSeat(s) || c < 0 || c >= at(t).p ? UNKNOWN : doneAndKept(t, 0, s, c);
    }

    int bid(int t, int s, int n, int suit) {
        return at(t) == null || noSeat(s) ? UNKNOWN : doneAndKept(t, 1, s, n, suit);
    }

    int doubled(int t, int s) {
        return at(t) == null || noSeat(s) ? UNKNOWN : doneAndKept(t, 2, s);
    }

    int lay(int t, int s, int i) {
        return tried(t, s, i, 3);
    }

    int revoke(int t, int s, int i) {
        return tried(t, s, i, 4);
    }

    private int tried(int t, int s, int i, int what) {
        if (at(t) == null || noSeat(s)) {
            return UNKNOWN;
        }
        if (at(t).state != 1) {
            return STATE;
        }
        tries++;
        return doneAndKept(t, what, s, i);
    }

    int allowed(int t, int s, int i) {
        T b = at(t);
        if (b == null || noSeat(s)) {
            return UNKNOWN;
        }
        if (b.state != 1) {
            return STATE;
        }
        List<Integer> hand = b.hands.get(s);
        if (!b.taken[s]) {
            return -11;
        }
        if (hand == null) {
            return -12;
        }
        if (i < 0 || i >= hand.size()) {
            return -13;
        }
        return b.kind[hand.get(i)] == 3 ? -15 : allows(b.g, b, hand, b.trick, hand.get(i));
    }

    // what can be seen

    int turn(int t) {
        return at(t) == null ? UNKNOWN : at(t).turn;
    }

    int trick(int t, int i) {
        return at(t) == null ? UNKNOWN : i < 0 || i >= at(t).trick.size() ? NONE : at(t).trick.get(i);
    }

    int hand(int t, int s, int i) {
        if (at(t) == null || noSeat(s)) {
            return UNKNOWN;
        }
        List<Integer> hand = at(t).hands.get(s);
        return hand == null ? -12 : i < 0 || i >= hand.size() ? NONE : hand.get(i);
    }

    int left(int t, int s) {
        if (at(t) == null || s < 0 || s > 4) {
            return UNKNOWN;
        }
        List<Integer> row = s == 4 ? at(t).rest : at(t).hands.get(s);
        return row == null ? NONE : row.size();
    }

    int winner(int t) {
        return at(t) == null ? UNKNOWN : at(t).winner;
    }

    int won(int t, int side, int what) {
        T b = at(t);
        if (b == null || noSide(side)) {
            return UNKNOWN;
        }
        int cards = b.claimedCards.get(side).size();
        for (Won w : b.won) {
            cards += w.side == side ? w.cards.size() : 0;
        }
        return what == 0 ? b.tricks(side) : what == 1 ? b.points(side) : what == 2 ? cards : OUTSIDE;
    }

    int revokes(int t, int s, int what) {
        if (at(t) == null || noSeat(s)) {
            return UNKNOWN;
        }
        return what < 0 || what > 1 ? OUTSIDE
                : (int) at(t).revs.stream().filter(r -> r.seat == s && (what == 0 || r.found)).count();
    }

    int sum(int t, int s) {
        return at(t) == null || noSeat(s) ? UNKNOWN : at(t).sums[s];
    }

    int tie(int t) {
        if (at(t) == null) {
            return UNKNOWN;
        }
        int[] sums = at(t).sums;
        int order = Integer.compare(sums[0] + sums[2], sums[1] + sums[3]);
        return order > 0 ? 0 : order < 0 ? 1 : 2;
    }

    // ends

    private boolean isEnd(T b) {
        if (b.state != 1 || !b.trick.isEmpty()) {
            return false;
        }
        for (List<Integer> hand : b.hands) {
            if (hand != null && (hand.size() > 4 || hand.stream().anyMatch(c -> b.kind[c] == 3))) {
                return false;
            }
        }
        return true;
    }

    private Map<String, Integer> known = new HashMap<>();

    private String place(T b) {
        return b.hands + "/" + b.trick + "/" + b.trickSeats + "/" + b.turn;
    }

    /** The table after a card was laid in an end: nothing but hands, the trick, the turn; gained tells the trick. */
    private T laid(T b, int i, int side, int[] gained) {
        T c = b.copied();
        int s = c.turn;
        c.trick.add(c.hands.get(s).remove(i));
        c.trickSeats.add(s);
        c.turn = next(c, s + 1);
        gained[0] = 0;
        if (c.turn == NONE) {
            int w = c.trickSeats.get(c.trick.indexOf(wins(c.g, c, c.trick)));
            gained[0] = w % 2 == side ? 1 : 0;
            c.trick.clear();
            c.trickSeats.clear();
            c.turn = next(c, w);
        }
        return c;
    }

    private boolean lets(T b, int i) {
        List<Integer> hand = b.hands.get(b.turn);
        return allows(b.g, b, hand, b.trick, hand.get(i)) == 0;
    }

    private int value(T b, int side) {
        if (b.turn == NONE) {
            return 0;
        }
        String key = place(b);
        Integer was = known.get(key);
        if (was != null) {
            return was;
        }
        int value = b.turn % 2 == side ? -1 : 99;
        for (int i = 0; i < b.hands.get(b.turn).size(); i++) {
            if (lets(b, i)) {
                int[] gained = new int[1];
                T c = laid(b, i, side, gained);
                int got = gained[0] + value(c, side);
                value = b.turn % 2 == side ? Math.max(value, got) : Math.min(value, got);
            }
        }
        known.put(key, value);
        return value;
    }

    private int lineplace(T b, int side) {
        for (int i = 0; i < b.hands.get(b.turn).size(); i++) {
            int[] gained = new int[1];
            if (lets(b, i)) {
                T c = laid(b, i, side, gained);
                if (gained[0] + value(c, side) == value(b, side)) {
                    return i;
                }
            }
        }
        return NONE;
    }

    private int best(T b, int side) {
        boolean before = silent;
        silent = true;
        known.clear();
        T c = b.copied();
        int best = value(c, side);
        silent = before;
        return best;
    }

    private boolean sure(T b, int side, int need) {
        if (need <= 0 || b.turn == NONE) {
            return need <= 0;
        }
        boolean sure = true;
        int own = b.turn % 2 == side ? lineplace(b, side) : NONE;
        for (int i = 0; i < b.hands.get(b.turn).size() && sure; i++) {
            if (own == NONE ? lets(b, i) : i == own) {
                int[] gained = new int[1];
                T c = laid(b, i, side, gained);
                sure = sure(c, side, need - gained[0]);
            }
        }
        return sure;
    }

    int best(int t, int side) {
        if (at(t) == null || noSide(side)) {
            return UNKNOWN;
        }
        return isEnd(at(t)) ? best(at(t), side) : STATE;
    }

    int line(int t, int side, int k) {
        if (at(t) == null || noSide(side)) {
            return UNKNOWN;
        }
        if (!isEnd(at(t))) {
            return STATE;
        }
        silent = true;
        known.clear();
        List<Integer> line = new ArrayList<>();
        T b = at(t).copied();
        while (b.turn != NONE) {
            int i = lineplace(b, side);
            line.add(b.hands.get(b.turn).get(i));
            b = laid(b, i, side, new int[1]);
        }
        silent = false;
        return k < 0 || k >= line.size() ? NONE : line.get(k);
    }

    int check(int t, int side) {
        if (at(t) == null || noSide(side)) {
            return UNKNOWN;
        }
        if (!isEnd(at(t))) {
            return STATE;
        }
        silent = true;
        known.clear();
        T b = at(t).copied();
        boolean sure = sure(b, side, value(b, side));
        silent = false;
        return sure ? 1 : 0;
    }

    int claim(int t, int side, int n) {
        if (at(t) == null || noSide(side)) {
            return UNKNOWN;
        }
        return n < 0 || n > 4 ? OUTSIDE : doneAndKept(t, 5, side, n);
    }

    // what was done

    int undo(int t) {
        if (at(t) == null) {
            return UNKNOWN;
        }
        List<T> kept = history.get(t);
        if (kept.isEmpty()) {
            return STATE;
        }
        tables[t] = kept.remove(kept.size() - 1);
        return kept.size();
    }

    int replay(int t) {
        T b = at(t);
        if (b == null) {
            return UNKNOWN;
        }
        if (b.state == 0) {
            return STATE;
        }
        if (b.log.size() > 100) {
            return 0;
        }
        silent = true;
        T aside = b.copied();
        begin(aside, b.seed, b.n);
        b.log.forEach(call -> done(aside, 9, call));
        silent = false;
        boolean alike = aside.hands.equals(b.hands) && aside.rest.equals(b.rest);
        for (int side = 0; side < 2; side++) {
            alike = alike && aside.tricks(side) == b.tricks(side) && aside.points(side) == b.points(side);
        }
        return alike ? 1 : 0;
    }

    int digest(int t) {
        T b = at(t);
        if (b == null) {
            return UNKNOWN;
        }
        List<Integer> all = new ArrayList<>();
        for (List<Integer> hand : b.hands) {
            all.add(hand == null ? -1 : hand.size());
            all.addAll(hand == null ? List.of() : hand);
        }
        all.add(b.trick.size());
        all.addAll(b.trick);
        all.addAll(List.of(b.tricks(0), b.points(0), b.tricks(1), b.points(1)));
        all.addAll(List.of(b.sums[0], b.sums[1], b.sums[2], b.sums[3], b.turn));
        int h = 17;
        for (int number : all) {
            h = 31 * h + number;
        }
        return h;
    }

    int finding(int i, int what) {
        if (what < 0 || what > 4) {
            return OUTSIDE;
        }
        List<int[]> kept = findings.subList(Math.max(0, findings.size() - 60), findings.size());
        return i < 0 || i >= kept.size() ? NONE : kept.get(i)[what];
    }

    int trace(int i) {
        List<Integer> kept = trace.subList(Math.max(0, trace.size() - 60), trace.size());
        return i < 0 || i >= kept.size() ? NONE : kept.get(i);
    }

    int forget() {
        int came = trace.size();
        trace = new ArrayList<>();
        return came;
    }

    int count(int what) {
        switch (what) {
            case 0:
                return tries;
            case 1:
                return findings.size();
            case 2:
                return numbers;
            case 3:
                return (int) Arrays.stream(tables).filter(b -> b != null).count();
            case 4:
                return (int) Arrays.stream(games).filter(g -> g != null).count();
            default:
                return OUTSIDE;
        }
    }

    int status(int t, int what) {
        T b = at(t);
        if (b == null) {
            return UNKNOWN;
        }
        int[] all = {b.state, b.number, b.matchHad, b.tricks(0) + b.tricks(1), b.bidN, b.bidSuit, b.bidSeat, b.d,
            history.get(t).size()};
        return what < 0 || what > 8 ? OUTSIDE : all[what];
    }
}
