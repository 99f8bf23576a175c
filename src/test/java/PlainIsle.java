import java.util.ArrayList;
import java.util.Arrays;
import java.util.HashMap;
import java.util.HashSet;
import java.util.List;
import java.util.Map;
import java.util.NoSuchElementException;
import java.util.Set;

/**
 * The same face once more, written from the document in the plainest way: corners are points of a plane,
 * sides are pairs of points, everything is searched anew. RandomRunsTest holds the program against it.
 */
final class PlainIsle {
    static final String GOODS = "wbsgo";
    static final String CARDS = "kvmpr";
    static final int[][] SHAPE = {{0, 0}, {1, 1}, {1, 2}, {0, 3}, {-1, 2}, {-1, 1}};

    final char[][] kind = new char[5][5];
    final int[][] number = new int[5][5];
    final Map<Set<Integer>, Character> harbours = new HashMap<>();
    final Map<Integer, Integer> built = new HashMap<>();
    final Map<Set<Integer>, Integer> roads = new HashMap<>();
    final int[][] goods = new int[4][5];
    final int[][] cards = new int[4][5];
    final int[] bankGoods = {19, 19, 19, 19, 19};
    final int[] knights = new int[4];
    final int[] rating = {1500, 1500, 1500, 1500};
    final Set<Integer> losers = new HashSet<>();
    List<Character> pile = new ArrayList<>();
    int[] fresh = new int[5];
    char phase = '-';
    int players;
    int goal;
    int turn;
    int thiefColumn;
    int thiefRow;
    int lastHouse;
    int wayTitle = -1;
    int knightTitle = -1;
    int freeRoads;
    int[] offered;
    int[] wished;
    boolean hasPlayed;
    long z = 1;
    List<Integer> order = new ArrayList<>();

    PlainIsle() {
        for (char[] line : kind) {
            Arrays.fill(line, '-');
        }
    }

    // ---- geometry

    static int point(int column, int row, int corner) {
        int x = 2 * column + row % 2 + 1 + SHAPE[corner][0];
        int y = 2 * row + SHAPE[corner][1];
        return 100 * x + y;
    }

    static Set<Integer> pair(int column, int row, int side) {
        return Set.of(point(column, row, side), point(column, row, (side + 1) % 6));
    }

    static List<int[]> placesAtPoint(int point) {
        List<int[]> found = new ArrayList<>();
        for (int r = 0; r < 5; r++) {
            for (int c = 0; c < 5; c++) {
                for (int k = 0; k < 6; k++) {
                    if (point(c, r, k) == point) {
                        found.add(new int[] {c, r});
                    }
                }
            }
        }
        return found;
    }

    static boolean isNear(int one, int other) {
        int dx = one / 100 - other / 100;
        int dy = one % 100 - other % 100;
        int upper = Math.min(one % 100, other % 100);
        // from an even level a side leads down slantwise, from an odd one straight down
        return Math.abs(dy) == 1 && (upper % 2 == 0 ? Math.abs(dx) == 1 : dx == 0);
    }

    boolean isLand(int c, int r) {
        return kind[c][r] != '-';
    }

    int owner(int point) {
        return built.containsKey(point) ? built.get(point) % 10 : -1;
    }

    // ---- checks

    static void place(int column, int row) {
        if (column < 0 || column > 4 || row < 0 || row > 4) {
            throw new IndexOutOfBoundsException();
        }
    }

    static void spot(int column, int row, int k) {
        place(column, row);
        if (k < 0 || k > 5) {
            throw new IndexOutOfBoundsException();
        }
    }

    void player(int p) {
        if (p < 0 || p >= players) {
            throw new IndexOutOfBoundsException();
        }
    }

    static int good(char g) {
        int i = GOODS.indexOf(g);
        if (i < 0) {
            throw new IllegalArgumentException();
        }
        return i;
    }

    void phases(String allowed) {
        if (allowed.indexOf(phase) < 0) {
            throw new IllegalStateException();
        }
    }

    static void demand(boolean holds) {
        if (!holds) {
            throw new UnsupportedOperationException();
        }
    }

    // ---- the face

    char land(int column, int row, char k, int n) {
        place(column, row);
        if ("-wbsgod".indexOf(k) < 0 || GOODS.indexOf(k) >= 0 && (n < 2 || n > 12 || n == 7)) {
            throw new IllegalArgumentException();
        }
        phases("-o");
        char before = kind[column][row];
        kind[column][row] = k;
        number[column][row] = n;
        return before;
    }

    char harbour(int column, int row, int side, char k) {
        spot(column, row, side);
        if ("-wbsgo?".indexOf(k) < 0) {
            throw new IllegalArgumentException();
        }
        phases("-o");
        Character before = harbours.put(pair(column, row, side), k);
        return before == null ? '-' : before;
    }

    int pipsOf(int c, int r) {
        return GOODS.indexOf(kind[c][r]) < 0 ? 0 : 6 - Math.abs(7 - number[c][r]);
    }

    int pipsAt(int point) {
        return placesAtPoint(point).stream().mapToInt(p -> pipsOf(p[0], p[1])).sum();
    }

    int pips(int column, int row, int corner) {
        spot(column, row, corner);
        return pipsAt(point(column, row, corner));
    }

    int touching() {
        int twice = 0;
        for (int a = 0; a < 25; a++) {
            for (int b = 0; b < 25; b++) {
                if (a != b && isHot(a % 5, a / 5) && isHot(b % 5, b / 5)) {
                    for (int i = 0; i < 36; i++) {
                        twice += pair(a % 5, a / 5, i % 6).equals(pair(b % 5, b / 5, i / 6)) ? 1 : 0;
                    }
                }
            }
        }
        return twice / 2;
    }

    boolean isHot(int c, int r) {
        return GOODS.indexOf(kind[c][r]) >= 0 && (number[c][r] == 6 || number[c][r] == 8);
    }

    int begin(int n, int g) {
        if (n < 2 || n > 4 || g < 3 || g > 10) {
            throw new IllegalArgumentException();
        }
        phases("-o");
        int lands = lands();
        demand(lands >= 3);
        players = n;
        goal = g;
        built.clear();
        roads.clear();
        losers.clear();
        Arrays.fill(bankGoods, 19);
        Arrays.fill(knights, 0);
        for (int p = 0; p < 4; p++) {
            Arrays.fill(goods[p], 0);
            Arrays.fill(cards[p], 0);
        }
        pile = new ArrayList<>();
        for (char c : "kkkkkkkkkkkkkkvvvvvmmpprr".toCharArray()) {
            pile.add(c);
        }
        wayTitle = -1;
        knightTitle = -1;
        newTurn();
        order = new ArrayList<>();
        for (int i = 0; i < 2 * n; i++) {
            order.add(i < n ? i : 2 * n - 1 - i);
        }
        turn = order.get(0);
        phase = 'h';
        placeThief();
        return lands;
    }

    void newTurn() {
        freeRoads = 0;
        hasPlayed = false;
        offered = null;
        wished = null;
        fresh = new int[5];
    }

    void placeThief() {
        for (String wanted : new String[] {"d", "dwbsgo"}) {
            for (int i = 0; i < 25; i++) {
                if (wanted.indexOf(kind[i % 5][i / 5]) >= 0) {
                    thiefColumn = i % 5;
                    thiefRow = i / 5;
                    return;
                }
            }
        }
    }

    int lands() {
        int count = 0;
        for (int i = 0; i < 25; i++) {
            count += isLand(i % 5, i / 5) ? 1 : 0;
        }
        return count;
    }

    int seed(int s) {
        if (s < 1 || s > 2147483646) {
            throw new IllegalArgumentException();
        }
        int before = (int) z;
        z = s;
        return before;
    }

    char phase() {
        return phase;
    }

    int turn() {
        phases("hwrltao");
        return turn;
    }

    boolean houseFits(int p, int point) {
        boolean atLand = placesAtPoint(point).stream().anyMatch(q -> isLand(q[0], q[1]));
        boolean alone = built.keySet().stream().noneMatch(q -> q == point || isNear(q, point));
        boolean reached = roads.entrySet().stream().anyMatch(e -> e.getValue() == p && e.getKey().contains(point));
        return atLand && alone && (phase == 'h' || reached);
    }

    boolean roadFits(int p, int column, int row, int side) {
        Set<Integer> pair = pair(column, row, side);
        boolean atLand = false;
        for (int i = 0; i < 150; i++) {
            atLand |= isLand(i % 5, i / 5 % 5) && pair(i % 5, i / 5 % 5, i / 25).equals(pair);
        }
        boolean begins = false;
        for (int point : pair) {
            boolean own = owner(point) == p;
            boolean on = owner(point) == -1 && roads.entrySet().stream()
                    .anyMatch(e -> e.getValue() == p && e.getKey().contains(point));
            begins |= own || on;
        }
        return atLand && !roads.containsKey(pair) && begins;
    }

    int pieces(int kindOfBuilding) {
        return (int) built.values().stream().filter(b -> b == kindOfBuilding).count();
    }

    void pay(int... cost) {
        for (int g = 0; g < 5; g++) {
            demand(goods[turn][g] >= cost[g]);
        }
        for (int g = 0; g < 5; g++) {
            goods[turn][g] -= cost[g];
            bankGoods[g] += cost[g];
        }
    }

    int house(int column, int row, int corner) {
        spot(column, row, corner);
        phases("ha");
        int point = point(column, row, corner);
        demand(houseFits(turn, point));
        if (phase == 'h') {
            built.put(point, turn);
            if (order.size() <= players) {
                for (int[] p : placesAtPoint(point)) {
                    int g = GOODS.indexOf(kind[p[0]][p[1]]);
                    if (g >= 0 && bankGoods[g] > 0) {
                        bankGoods[g]--;
                        goods[turn][g]++;
                    }
                }
            }
            lastHouse = point;
            phase = 'w';
        } else {
            demand(pieces(turn) < 5);
            pay(1, 1, 1, 1, 0);
            built.put(point, turn);
        }
        settle();
        return points(turn, true);
    }

    int road(int column, int row, int side) {
        spot(column, row, side);
        phases("wa");
        demand(roadFits(turn, column, row, side));
        Set<Integer> pair = pair(column, row, side);
        int p = turn;
        if (phase == 'w') {
            demand(pair.contains(lastHouse));
            roads.put(pair, turn);
            order.remove(0);
            turn = order.isEmpty() ? 0 : order.get(0);
            phase = order.isEmpty() ? 'r' : 'h';
        } else {
            demand(roads.values().stream().filter(o -> o == turn).count() < 15);
            if (freeRoads > 0) {
                freeRoads--;
            } else {
                pay(1, 1, 0, 0, 0);
            }
            roads.put(pair, turn);
        }
        settle();
        return way(p);
    }

    int town(int column, int row, int corner) {
        spot(column, row, corner);
        phases("a");
        int point = point(column, row, corner);
        demand(built.containsKey(point) && built.get(point) == turn);
        demand(pieces(turn + 10) < 4);
        pay(0, 0, 0, 2, 3);
        built.put(point, turn + 10);
        settle();
        return points(turn, true);
    }

    /** Titles and the end of the game, looked at behind whatever may change them. */
    void settle() {
        int[] ways = new int[4];
        for (int p = 0; p < players; p++) {
            ways[p] = wayOf(p);
        }
        int most = Arrays.stream(ways).max().getAsInt();
        boolean keeps = wayTitle >= 0 && ways[wayTitle] >= 5 && ways[wayTitle] == most;
        if (!keeps) {
            wayTitle = -1;
            long top = Arrays.stream(ways).filter(w -> w == most).count();
            for (int p = 0; p < players; p++) {
                if (ways[p] == most && most >= 5 && top == 1) {
                    wayTitle = p;
                }
            }
        }
        for (int p = 0; p < players; p++) {
            if (knights[p] >= 3 && (knightTitle < 0 || knights[p] > knights[knightTitle])) {
                knightTitle = p;
            }
        }
        if ("rlta".indexOf(phase) >= 0 && points(turn, false) >= goal) {
            phase = 'o';
            int[] ahead = rating.clone();
            for (int p = 0; p < players; p++) {
                if (p != turn) {
                    int more = 16 + (ahead[p] - ahead[turn]) / 25;
                    more = more < 1 ? 1 : more > 31 ? 31 : more;
                    rating[p] -= more;
                    rating[turn] += more;
                }
            }
        }
    }

    int wayOf(int p) {
        List<List<Integer>> own = new ArrayList<>();
        roads.forEach((pair, o) -> {
            if (o == p) {
                own.add(new ArrayList<>(pair));
            }
        });
        int best = 0;
        Set<Integer> ends = new HashSet<>();
        own.forEach(ends::addAll);
        for (int end : ends) {
            best = Math.max(best, wayFrom(p, end, own, 0));
        }
        return best;
    }

    int wayFrom(int p, int point, List<List<Integer>> own, int used) {
        int best = 0;
        for (int i = 0; i < own.size(); i++) {
            if ((used >> i & 1) == 0 && own.get(i).contains(point)) {
                int next = own.get(i).get(0) == point ? own.get(i).get(1) : own.get(i).get(0);
                boolean cut = owner(next) >= 0 && owner(next) != p;
                best = Math.max(best, 1 + (cut ? 0 : wayFrom(p, next, own, used | 1 << i)));
            }
        }
        return best;
    }

    int die() {
        z = z * 48271 % 2147483647;
        return (int) (z % 6) + 1;
    }

    int roll() {
        phases("r");
        int sum = die() + die();
        phase = 'a';
        if (sum == 7) {
            losers.clear();
            for (int p = 0; p < players; p++) {
                if (goods(p) > 7) {
                    losers.add(p);
                }
            }
            phase = losers.isEmpty() ? 't' : 'l';
            return sum;
        }
        for (int g = 0; g < 5; g++) {
            int[] due = new int[4];
            for (int i = 0; i < 25; i++) {
                int c = i % 5;
                int r = i / 5;
                if (kind[c][r] == GOODS.charAt(g) && number[c][r] == sum && !(c == thiefColumn && r == thiefRow)) {
                    for (int k = 0; k < 6; k++) {
                        int b = built.getOrDefault(point(c, r, k), -1);
                        if (b >= 0) {
                            due[b % 10] += b >= 10 ? 2 : 1;
                        }
                    }
                }
            }
            int all = Arrays.stream(due).sum();
            long who = Arrays.stream(due).filter(d -> d > 0).count();
            for (int p = 0; p < 4; p++) {
                int gets = all <= bankGoods[g] ? due[p] : who == 1 && due[p] > 0 ? -1 : 0;
                gets = gets < 0 ? bankGoods[g] : gets;
                goods[p][g] += gets;
                due[p] = gets;
            }
            bankGoods[g] -= Arrays.stream(due).sum();
        }
        return sum;
    }

    static int[] digits(int told) {
        return new int[] {told / 10000, told / 1000 % 10, told / 100 % 10, told / 10 % 10, told % 10};
    }

    boolean owns(int p, int[] what) {
        boolean all = true;
        for (int g = 0; g < 5; g++) {
            all &= goods[p][g] >= what[g];
        }
        return all;
    }

    int lose(int p, int told) {
        player(p);
        if (told < 0 || told > 99999) {
            throw new IllegalArgumentException();
        }
        phases("l");
        int[] what = digits(told);
        demand(losers.contains(p) && owns(p, what) && Arrays.stream(what).sum() == goods(p) / 2);
        for (int g = 0; g < 5; g++) {
            goods[p][g] -= what[g];
            bankGoods[g] += what[g];
        }
        losers.remove(p);
        if (losers.isEmpty()) {
            phase = 't';
        }
        return losers.size();
    }

    Set<Integer> robbable(int column, int row) {
        Set<Integer> found = new HashSet<>();
        for (int k = 0; k < 6; k++) {
            int p = owner(point(column, row, k));
            if (p >= 0 && p != turn && goods(p) > 0) {
                found.add(p);
            }
        }
        return found;
    }

    char thief(int column, int row, int from) {
        place(column, row);
        if (from != -1) {
            player(from);
        }
        phases("t");
        demand(isLand(column, row));
        demand(column != thiefColumn || row != thiefRow);
        Set<Integer> victims = robbable(column, row);
        demand(from == -1 ? victims.isEmpty() : victims.contains(from));
        thiefColumn = column;
        thiefRow = row;
        phase = 'a';
        if (from == -1) {
            return '-';
        }
        StringBuilder all = new StringBuilder();
        for (int g = 0; g < 5; g++) {
            all.append(GOODS.substring(g, g + 1).repeat(goods[from][g]));
        }
        z = z * 48271 % 2147483647;
        char got = all.charAt((int) (z % all.length()));
        goods[from][GOODS.indexOf(got)]--;
        goods[turn][GOODS.indexOf(got)]++;
        return got;
    }

    int end() {
        phases("a");
        newTurn();
        turn = (turn + 1) % players;
        phase = 'r';
        settle();
        return turn;
    }

    int price(int p, int g) {
        int price = 4;
        for (Map.Entry<Set<Integer>, Character> e : harbours.entrySet()) {
            for (int point : e.getKey()) {
                if (owner(point) == p && e.getValue() == '?') {
                    price = Math.min(price, 3);
                }
                if (owner(point) == p && e.getValue() == GOODS.charAt(g)) {
                    price = 2;
                }
            }
        }
        return price;
    }

    int bank(char give, char take) {
        int a = good(give);
        int b = good(take);
        if (a == b) {
            throw new IllegalArgumentException();
        }
        phases("a");
        int price = price(turn, a);
        demand(goods[turn][a] >= price && bankGoods[b] >= 1);
        goods[turn][a] -= price;
        bankGoods[a] += price;
        goods[turn][b]++;
        bankGoods[b]--;
        return price;
    }

    boolean offer(int give, int want) {
        if (give < 1 || give > 99999 || want < 1 || want > 99999) {
            throw new IllegalArgumentException();
        }
        int[] a = digits(give);
        int[] b = digits(want);
        for (int g = 0; g < 5; g++) {
            if (a[g] * b[g] != 0) {
                throw new IllegalArgumentException();
            }
        }
        phases("a");
        demand(owns(turn, a));
        boolean before = offered != null;
        offered = a;
        wished = b;
        return before;
    }

    int take(int p) {
        player(p);
        phases("a");
        if (offered == null) {
            throw new NoSuchElementException();
        }
        demand(p != turn && owns(turn, offered) && owns(p, wished));
        for (int g = 0; g < 5; g++) {
            goods[p][g] += offered[g] - wished[g];
            goods[turn][g] += wished[g] - offered[g];
        }
        offered = null;
        return goods(p);
    }

    int buy() {
        phases("a");
        demand(!pile.isEmpty());
        pay(0, 0, 1, 1, 1);
        z = z * 48271 % 2147483647;
        int c = CARDS.indexOf(pile.remove((int) (z % pile.size())));
        cards[turn][c]++;
        fresh[c]++;
        settle();
        return pile.size();
    }

    int play(char card, char g, char other) {
        if ("kmpr".indexOf(card) < 0) {
            throw new IllegalArgumentException();
        }
        if (card == 'm' || card == 'p') {
            good(g);
        }
        if (card == 'p') {
            good(other);
        }
        phases("a");
        int c = CARDS.indexOf(card);
        demand(!hasPlayed && cards[turn][c] > fresh[c]);
        hasPlayed = true;
        cards[turn][c]--;
        switch (card) {
            case 'k':
                knights[turn]++;
                phase = 't';
                settle();
                return knights[turn];
            case 'm':
                for (int p = 0; p < players; p++) {
                    int all = goods[p][good(g)];
                    goods[p][good(g)] -= all;
                    goods[turn][good(g)] += all;
                }
                break;
            case 'p':
                for (int what : new int[] {good(g), good(other)}) {
                    if (bankGoods[what] > 0) {
                        bankGoods[what]--;
                        goods[turn][what]++;
                    }
                }
                break;
            default:
                freeRoads = 2;
        }
        return goods(turn);
    }

    int goods(int p) {
        player(p);
        return Arrays.stream(goods[p]).sum();
    }

    int has(int p, char g) {
        player(p);
        return goods[p][good(g)];
    }

    int cards(int p, char card) {
        player(p);
        if (CARDS.indexOf(card) < 0) {
            throw new IllegalArgumentException();
        }
        return cards[p][CARDS.indexOf(card)];
    }

    int points(int p, boolean isSeen) {
        player(p);
        int sum = pieces(p) + 2 * pieces(p + 10);
        sum += wayTitle == p ? 2 : 0;
        sum += knightTitle == p ? 2 : 0;
        return isSeen ? sum : sum + cards[p][1];
    }

    int way(int p) {
        player(p);
        return wayOf(p);
    }

    int title(char t) {
        if (t != 'w' && t != 'k') {
            throw new IllegalArgumentException();
        }
        return t == 'w' ? wayTitle : knightTitle;
    }

    boolean mayHouse(int p, int column, int row, int corner) {
        player(p);
        spot(column, row, corner);
        return houseFits(p, point(column, row, corner));
    }

    boolean mayRoad(int p, int column, int row, int side) {
        player(p);
        spot(column, row, side);
        return roadFits(p, column, row, side);
    }

    int at(int column, int row, int corner) {
        spot(column, row, corner);
        return built.getOrDefault(point(column, row, corner), -1);
    }

    int roadAt(int column, int row, int side) {
        spot(column, row, side);
        return roads.getOrDefault(pair(column, row, side), -1);
    }

    int left(char g) {
        return bankGoods[good(g)];
    }

    int rate(int p, char g) {
        player(p);
        return price(p, good(g));
    }

    int expects(int p, char g) {
        player(p);
        good(g);
        int sum = 0;
        for (int one = 1; one <= 6; one++) {
            for (int two = 1; two <= 6; two++) {
                for (int i = 0; i < 150; i++) {
                    int c = i % 5;
                    int r = i / 5 % 5;
                    boolean gives = kind[c][r] == g && number[c][r] == one + two;
                    if (gives && !(c == thiefColumn && r == thiefRow)) {
                        int b = built.getOrDefault(point(c, r, i / 25), -1);
                        sum += b == p ? 1 : b == p + 10 ? 2 : 0;
                    }
                }
            }
        }
        return sum;
    }

    Set<Character> goodsAt(int point) {
        Set<Character> found = new HashSet<>();
        for (int[] p : placesAtPoint(point)) {
            if (GOODS.indexOf(kind[p[0]][p[1]]) >= 0) {
                found.add(kind[p[0]][p[1]]);
            }
        }
        return found;
    }

    int advise(char worth) {
        if ("pvn".indexOf(worth) < 0) {
            throw new IllegalArgumentException();
        }
        phases("ha");
        Set<Character> got = new HashSet<>();
        for (int point : built.keySet()) {
            if (worth == 'n' && owner(point) == turn) {
                got.addAll(goodsAt(point));
            }
        }
        int best = -1;
        int answer = -1;
        for (int i = 0; i < 150 && pieces(turn) < 5; i++) {
            int point = point(i / 6 % 5, i / 30, i % 6);
            if (houseFits(turn, point)) {
                Set<Character> unlike = goodsAt(point);
                unlike.removeAll(got);
                int value = pipsAt(point) + (worth == 'p' ? 0 : 10 * unlike.size());
                if (value > best) {
                    best = value;
                    answer = 100 * (i / 6 % 5) + 10 * (i / 30) + i % 6;
                }
            }
        }
        if (answer < 0) {
            throw new NoSuchElementException();
        }
        return answer;
    }

    int thiefAt() {
        phases("hwrltao");
        return 10 * thiefColumn + thiefRow;
    }

    int rating(int p) {
        if (p < 0 || p > 3) {
            throw new IndexOutOfBoundsException();
        }
        return rating[p];
    }

    float landShare() {
        return lands() / 25f;
    }

    double meanPoints() {
        if (phase == '-') {
            throw new ArithmeticException();
        }
        double sum = 0;
        for (int p = 0; p < players; p++) {
            sum += points(p, false);
        }
        return sum / players;
    }

    long checksum() {
        long sum = 7;
        for (int p = 0; p < players; p++) {
            sum = sum * 31 + points(p, false);
            for (int g = 0; g < 5; g++) {
                sum = sum * 31 + goods[p][g];
            }
            sum = sum * 31 + wayOf(p);
        }
        return (sum * 31 + z) * 31 + phase;
    }

    boolean isTrue() {
        return true;
    }
}
