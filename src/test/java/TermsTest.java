import java.util.ArrayList;
import java.util.List;
import java.util.Map;
import java.util.Set;
import java.util.function.Supplier;

/** The sentences of 'Terms' of places, the beginning, dice, the thief, cards and trading, at their edges. */
public final class TermsTest {
    private static final String GOODS = "wbsgo";
    private static final int[] NUMBERS = {2, 3, 4, 5, 6, 8, 9, 10, 11, 12};

    public static void main(String[] args) {
        cornersOfPlaces();
        placesBesideEachOther();
        sidesOfPlaces();
        housesUnderAllNames();
        roadsUnderAllNames();
        numbersWithoutMeaning();
        bankAtTheBeginning();
        thiefAtFirst();
        mayInEveryPhase();
        orderOfPlayers();
        secondHouses();
        enoughCorners();
        nextOfZ();
        landsOfAllSums();
        landsOfAllPlaces();
        losersOfFour();
        cornersOfALand();
        bankHasEnoughForAll();
        bankGivesOneWhatThereIs();
        robbedGoods();
        robbedGoodsOfTheSecond();
        pileOfCards();
        plenty();
        monopolyOfFour();
        freeRoads();
        harbours();
        advice();
        expects();
        Due.finish();
    }

    // ---- corners and sides by the place: through the rows, in these the columns, in these the corners

    private static int column(int spot) {
        return spot / 6 % 5;
    }

    private static int row(int spot) {
        return spot / 30;
    }

    private static int corner(int spot) {
        return spot % 6;
    }

    private static int point(int spot) {
        return PlainIsle.point(column(spot), row(spot), corner(spot));
    }

    private static Set<Integer> pair(int spot) {
        return PlainIsle.pair(column(spot), row(spot), corner(spot));
    }

    private static List<Integer> pointsOf(int column, int row) {
        List<Integer> points = new ArrayList<>();
        for (int k = 0; k < 6; k++) {
            points.add(PlainIsle.point(column, row, k));
        }
        return points;
    }

    // ---- places

    /** No place is beside one at the other end of its row or column. */
    private static void cornersOfPlaces() {
        for (int place = 0; place < 25; place++) {
            HexhavenIsle x = new HexhavenIsle();
            x.land(place % 5, place / 5, 'w', 6);
            List<Integer> points = pointsOf(place % 5, place / 5);
            for (int i = 0; i < 150; i++) {
                int spot = i;
                Due.due(points.contains(point(i)) ? 5 : 0, () -> x.pips(column(spot), row(spot), corner(spot)));
            }
        }
        HexhavenIsle full = Due.full(9);
        for (int i = 0; i < 150; i++) {
            int spot = i;
            int lands = PlainIsle.placesAtPoint(point(i)).size();
            Due.due(4 * lands, () -> full.pips(column(spot), row(spot), corner(spot)));
        }
    }

    private static void placesBesideEachOther() {
        for (int one = 0; one < 25; one++) {
            for (int other = one + 1; other < 25; other++) {
                List<Integer> points = pointsOf(one % 5, one / 5);
                points.retainAll(pointsOf(other % 5, other / 5));
                int due = points.size() == 2 ? 1 : 0;
                for (int kinds = 0; kinds < 4; kinds++) {
                    HexhavenIsle x = new HexhavenIsle();
                    x.land(one % 5, one / 5, 'w', kinds % 2 == 0 ? 6 : 8);
                    x.land(other % 5, other / 5, 'w', kinds / 2 == 0 ? 6 : 8);
                    Due.due(due, x::touching);
                }
            }
        }
        for (int number : NUMBERS) {
            HexhavenIsle x = new HexhavenIsle();
            x.land(1, 1, 'w', 6);
            x.land(1, 2, 'w', number);
            Due.due(number == 6 || number == 8 ? 1 : 0, x::touching);
        }
    }

    private static void sidesOfPlaces() {
        for (int i = 0; i < 150; i++) {
            int told = i;
            HexhavenIsle x = new HexhavenIsle();
            Due.due('-', () -> x.harbour(column(told), row(told), corner(told), 'o'));
            for (int k = 0; k < 150; k++) {
                int asked = k;
                char due = pair(k).equals(pair(i)) ? 'o' : '-';
                Due.due(due, () -> x.harbour(column(asked), row(asked), corner(asked), due));
            }
        }
    }

    private static void housesUnderAllNames() {
        for (int i = 0; i < 150; i++) {
            int put = i;
            HexhavenIsle x = Due.full(6);
            x.begin(2, 10);
            Due.due(1, () -> x.house(column(put), row(put), corner(put)));
            x.road(column(put), row(put), corner(put));
            for (int k = 0; k < 150; k++) {
                int asked = k;
                boolean isThere = point(k) == point(i);
                boolean isFree = !isThere && !PlainIsle.isNear(point(k), point(i));
                Due.due(isThere ? 0 : -1, () -> x.at(column(asked), row(asked), corner(asked)));
                Due.due(isFree, () -> x.mayHouse(1, column(asked), row(asked), corner(asked)));
            }
        }
    }

    /** The sides k and the one ahead of it, 5 ahead of 0, begin at the corner k. */
    private static void roadsUnderAllNames() {
        for (int i = 0; i < 150; i++) {
            int put = i;
            for (int k = 0; k < 6; k++) {
                int side = k;
                HexhavenIsle x = Due.full(6);
                x.begin(2, 10);
                x.house(column(put), row(put), corner(put));
                boolean isAt = k == corner(put) || k == (corner(put) + 5) % 6;
                Due.due(isAt ? (Object) 1 : Due.NOT_SO, () -> x.road(column(put), row(put), side));
            }
            HexhavenIsle x = Due.full(6);
            x.begin(2, 10);
            x.house(column(put), row(put), corner(put));
            x.road(column(put), row(put), corner(put));
            for (int k = 0; k < 150; k++) {
                int asked = k;
                int due = pair(k).equals(pair(i)) ? 0 : -1;
                Due.due(due, () -> x.roadAt(column(asked), row(asked), corner(asked)));
            }
        }
    }

    /** What is told with sea and deserts is not their number. */
    private static void numbersWithoutMeaning() {
        HexhavenIsle x = Due.full(12);
        x.land(1, 1, 'd', 6);
        x.land(1, 0, 'd', 8);
        x.land(2, 0, '-', 6);
        x.land(3, 0, '-', 8);
        x.land(3, 1, 'd', 6);
        Due.due(0, x::touching);
        Due.due(0, () -> x.pips(1, 1, 0));
        Due.due(2, () -> x.pips(1, 1, 4));
        Due.beginTwo(x, 10);
        String before = Due.all(x, 0) + Due.all(x, 1);
        Due.pass(x, 6);
        Due.pass(x, 8);
        Due.due(before, () -> Due.all(x, 0) + Due.all(x, 1));
        Due.due(3, () -> x.expects(0, 'w') + x.expects(0, 'b') + x.expects(0, 's') + x.expects(0, 'g')
                + x.expects(0, 'o'));
        // a land that was a desert, and the other way round
        HexhavenIsle z = new HexhavenIsle();
        z.land(2, 2, 'w', 6);
        z.land(2, 2, 'd', 6);
        Due.due(0, () -> z.pips(2, 2, 0));
        z.land(2, 2, 'w', 5);
        Due.due(4, () -> z.pips(2, 2, 0));
    }

    // ---- the beginning

    private static void bankAtTheBeginning() {
        HexhavenIsle x = Due.full(12);
        for (char good : GOODS.toCharArray()) {
            Due.due(19, () -> x.left(good));
        }
        ScoreTest.quickWin(x, 1);
        Due.due(18, () -> x.left('s'));
        x.begin(2, 10);
        for (char good : GOODS.toCharArray()) {
            Due.due(19, () -> x.left(good));
            Due.due(0, () -> x.has(0, good) + x.has(1, good));
        }
    }

    private static void thiefAtFirst() {
        for (int i = 0; i < 25; i++) {
            int due = i % 5 * 10 + i / 5;
            HexhavenIsle desert = Due.full(6);
            desert.land(i % 5, i / 5, 'd', 0);
            HexhavenIsle land = Due.full(6);
            for (int k = 0; k < i; k++) {
                land.land(k % 5, k / 5, '-', 0);
            }
            HexhavenIsle two = Due.full(6);
            for (int k = 24; k >= i; k -= 3) {
                two.land(k % 5, k / 5, 'd', 0);
            }
            int last = 24 - (24 - i) / 3 * 3;
            desert.begin(2, 3);
            two.begin(2, 3);
            Due.due(due, desert::thiefAt);
            Due.due(last % 5 * 10 + last / 5, two::thiefAt);
            if (i < 23) {
                land.begin(2, 3);
                Due.due(due, land::thiefAt);
            }
        }
    }

    /** A house needs an own road in each phase but 'h', a road begins as else in each of them. */
    private static void mayInEveryPhase() {
        for (Map.Entry<String, Supplier<HexhavenIsle>> stage : Stages.all().entrySet()) {
            HexhavenIsle x = stage.getValue().get();
            // of these islands one has sea at the last place, and the others have none
            int sea = x.landShare() == 1f ? -1 : 24;
            for (int i = 0; i < 150 * RefusalTest.count(x); i++) {
                int spot = i % 150;
                int player = i / 150;
                boolean isHouse = isLandAtPoint(point(spot), sea) && MissingTest.isApart(x, point(spot))
                        && (x.phase() == 'h' || MissingTest.isRoadEnd(x, player, point(spot)));
                boolean isRoad = isLandAtSide(spot, sea) && x.roadAt(column(spot), row(spot), corner(spot)) == -1
                        && pair(spot).stream().anyMatch(point -> MissingTest.mayBegin(x, player, point));
                Due.due(isHouse, () -> x.mayHouse(player, column(spot), row(spot), corner(spot)));
                Due.due(isRoad, () -> x.mayRoad(player, column(spot), row(spot), corner(spot)));
            }
        }
    }

    private static boolean isLandAtPoint(int point, int sea) {
        return PlainIsle.placesAtPoint(point).stream().anyMatch(place -> place[0] + 5 * place[1] != sea);
    }

    private static boolean isLandAtSide(int side, int sea) {
        for (int i = 0; i < 150; i++) {
            if (i / 6 != sea && pair(i).equals(pair(side))) {
                return true;
            }
        }
        return false;
    }

    private static void orderOfPlayers() {
        int[][] orders = {{0, 1, 1, 0}, {0, 1, 2, 2, 1, 0}, {0, 1, 2, 3, 3, 2, 1, 0}};
        for (int[] order : orders) {
            int players = order.length / 2;
            HexhavenIsle x = Due.full(6);
            x.begin(players, 10);
            for (int i = 0; i < order.length; i++) {
                int column = i % 4;
                int row = i / 4 * 2 + 1;
                int player = order[i];
                Due.due(player, x::turn);
                Due.due('h', x::phase);
                Due.due(i < players ? 0 : 1, () -> x.points(player, false));
                x.house(column, row, 0);
                Due.due('w', x::phase);
                Due.due(player, x::turn);
                Due.due(player, () -> x.at(column, row, 0));
                x.road(column, row, 0);
                Due.due(player, () -> x.roadAt(column, row, 0));
                // nothing is paid, and the second house brings three goods
                Due.due(i < players ? 0 : 3, () -> x.goods(player));
            }
            Due.due('r', x::phase);
            for (int i = 0; i < 2 * players; i++) {
                int next = (i + 1) % players;
                Due.due(i % players, x::turn);
                Due.roll(x, 3);
                Due.due(next, x::end);
            }
        }
    }

    /** Each corner with its lands: one good of each, also twice the same one, and none of deserts and sea. */
    private static void secondHouses() {
        for (int i = 0; i < 150; i++) {
            int put = i;
            for (String kinds : new String[] {"wbsgo", "w", "od", "gg-", "s-d"}) {
                HexhavenIsle x = new HexhavenIsle();
                for (int k = 0; k < 25; k++) {
                    x.land(k % 5, k / 5, kinds.charAt(k * 3 % kinds.length()), 6);
                }
                x.begin(2, 10);
                putFarFrom(x, point(i));
                putFarFrom(x, point(i));
                if (x.mayHouse(1, column(put), row(put), corner(put))) {
                    int[] due = new int[5];
                    for (int[] place : PlainIsle.placesAtPoint(point(i))) {
                        int kind = GOODS.indexOf(kinds.charAt((place[1] * 5 + place[0]) * 3 % kinds.length()));
                        if (kind >= 0) {
                            due[kind]++;
                        }
                    }
                    Due.due(2, () -> x.house(column(put), row(put), corner(put)));
                    for (int g = 0; g < 5; g++) {
                        int good = g;
                        Due.due(due[g], () -> x.has(1, GOODS.charAt(good)));
                        Due.due(19 - due[g], () -> x.left(GOODS.charAt(good)));
                        Due.due(0, () -> x.has(0, GOODS.charAt(good)));
                    }
                }
            }
        }
    }

    private static void putFarFrom(HexhavenIsle x, int point) {
        for (int i = 0; i < 150; i++) {
            int spot = (i * 7) % 150;
            boolean isFar = Math.abs(point(spot) / 100 - point / 100) + Math.abs(point(spot) % 100 - point % 100) > 4;
            if (isFar && x.mayHouse(0, column(spot), row(spot), corner(spot))) {
                x.house(column(spot), row(spot), corner(spot));
                for (int k = 0; k < 150 && x.phase() == 'w'; k++) {
                    int side = k;
                    Twin.answer(x, y -> y.road(column(side), row(side), corner(side)));
                }
                return;
            }
        }
        Due.due("a far corner", () -> "none");
    }

    /** Seven corners are enough for three players, and for four they are not. */
    private static void enoughCorners() {
        int[][] corners = {{0, 0, 1}, {0, 0, 3}, {0, 0, 5}, {1, 0, 1}, {1, 0, 3}, {2, 0, 1}, {2, 0, 3}};
        for (int players = 2; players <= 4; players++) {
            HexhavenIsle x = new HexhavenIsle();
            x.land(0, 0, 'w', 6);
            x.land(1, 0, 'b', 6);
            x.land(2, 0, 's', 6);
            x.begin(players, 3);
            for (int i = 0; i < corners.length && x.phase() == 'h'; i++) {
                Due.put(x, corners[i][0], corners[i][1], corners[i][2]);
            }
            Due.due(players < 4 ? 'r' : 'h', x::phase);
            Due.due(0, x::turn);
            Due.due(players < 4 ? Due.NOT_NOW : Due.MISSING, () -> x.advise('p'));
            Due.due(Due.NOT_NOW, () -> x.begin(2, 3));
            Due.due(players < 4, () -> Twin.answer(x, HexhavenIsle::roll) instanceof Integer);
        }
    }

    // ---- dice

    private static void nextOfZ() {
        HexhavenIsle x = Due.two(12, 10);
        Due.due(1, () -> x.seed(1));
        int[] seeds = {1, 2, 5, 6, 44488, 44489, 48271, 1073741823, 1073741824, 2147435376, 2147483645, 2147483646};
        for (int seed : seeds) {
            x.seed(seed);
            long one = Due.next(seed);
            long two = Due.next(one);
            Due.due((int) (1 + one % 6 + 1 + two % 6), x::roll);
            Due.due((int) two, () -> x.seed(7));
            if (x.phase() == 't') {
                x.thief(x.thiefAt() == 44 ? 0 : 4, 4, -1);
            }
            x.end();
        }
    }

    /** A land gives by its own number alone, by 2 and 12 too. */
    private static void landsOfAllSums() {
        for (int number : NUMBERS) {
            HexhavenIsle x = Due.full(number == 12 ? 2 : 12);
            x.land(1, 1, 'w', number);
            Due.beginTwo(x, 10);
            x.seed(1);
            for (int sum = 2; sum <= 12; sum++) {
                int rolled = sum;
                if (sum != 7 && sum != (number == 12 ? 2 : 12) || sum == number) {
                    int before = x.goods(0);
                    int others = x.goods(1);
                    Due.roll(x, sum);
                    Due.due(before + (rolled == number ? 1 : 0), () -> x.goods(0));
                    Due.due(others, () -> x.goods(1));
                    x.end();
                }
            }
            Due.due(2, () -> x.has(0, 'w'));
        }
    }

    /** Each place gives, the first and the last one too, at each of its corners. */
    private static void landsOfAllPlaces() {
        for (int i = 0; i < 150; i++) {
            int put = i;
            int place = i / 6;
            int desert = (place + 12) % 25;
            HexhavenIsle x = new HexhavenIsle();
            for (int k = 0; k < 25; k++) {
                x.land(k % 5, k / 5, 'w', 12);
            }
            x.land(desert % 5, desert / 5, 'd', 0);
            x.land(place % 5, place / 5, 'o', 6);
            x.begin(2, 10);
            Due.put(x, column(put), row(put), corner(put));
            for (int k = 0; k < 3; k++) {
                putFarFrom(x, point(i));
            }
            int own = x.has(0, 'o') + housesAt(x, 0, place);
            int others = x.has(1, 'o') + housesAt(x, 1, place);
            Due.due(true, () -> housesAt(x, 0, place) >= 1);
            Due.due(5 * housesAt(x, 0, place), () -> x.expects(0, 'o'));
            Due.due(5 * housesAt(x, 1, place), () -> x.expects(1, 'o'));
            Due.roll(x, 6);
            Due.due(own, () -> x.has(0, 'o'));
            Due.due(others, () -> x.has(1, 'o'));
        }
    }

    /** By a 7 those of four with more than 7 goods lose, in any order, and others do not. */
    private static void losersOfFour() {
        int[][] orders = {{0, 1, 2, 3}, {3, 2, 1, 0}, {2, 0, 3, 1}};
        for (int[] order : orders) {
            HexhavenIsle x = four(6);
            for (int i = 0; i < 4; i++) {
                Due.pass(x, 6);
            }
            int[] has = {x.goods(0), x.goods(1), x.goods(2), x.goods(3)};
            Due.due(true, () -> Math.min(Math.min(has[0], has[1]), Math.min(has[2], has[3])) > 7);
            Due.roll(x, 7);
            for (int i = 0; i < 4; i++) {
                int player = order[i];
                int still = 3 - i;
                Due.due('l', x::phase);
                Due.due(still, () -> x.lose(player, half(x, player)));
                Due.due(has[player] - has[player] / 2, () -> x.goods(player));
            }
            Due.due('t', x::phase);
            Due.due(0, x::turn);
        }
        HexhavenIsle few = four(12);
        Due.roll(few, 7);
        Due.due('t', few::phase);
        Due.due(Due.NOT_NOW, () -> few.lose(0, 0));
        // each one alone has more than 7
        for (int i = 0; i < 4; i++) {
            int loser = i;
            HexhavenIsle x = four(12);
            for (int k = 0; k < 4 && x.turn() != loser; k++) {
                Due.pass(x, 3);
            }
            Due.roll(x, 3);
            // all goods of others for one each
            for (int k = 0; k < 4; k++) {
                giveAll(x, k);
            }
            Due.due(true, () -> x.goods(loser) > 7);
            x.end();
            Due.roll(x, 7);
            Due.due('l', x::phase);
            for (int k = 0; k < 4; k++) {
                int other = k;
                if (other != loser) {
                    Due.due(Due.NOT_SO, () -> x.lose(other, 0));
                }
            }
            Due.due(0, () -> x.lose(loser, half(x, loser)));
            Due.due('t', x::phase);
        }
    }

    /** Four players, each with three goods. */
    private static HexhavenIsle four(int number) {
        HexhavenIsle x = Due.full(number);
        x.land(4, 4, 'd', 0);
        x.begin(4, 10);
        int[][] corners = {{0, 1, 0}, {1, 1, 0}, {2, 1, 0}, {3, 1, 0}, {0, 3, 0}, {1, 3, 0}, {2, 3, 0}, {3, 3, 0}};
        for (int[] c : corners) {
            Due.put(x, c[0], c[1], c[2]);
        }
        for (int i = 0; i < 4; i++) {
            int player = i;
            Due.due(3, () -> x.goods(player));
        }
        return x;
    }

    /** By offers another player gives all goods but one for one. */
    private static void giveAll(HexhavenIsle x, int player) {
        int turn = x.turn();
        for (char give : GOODS.toCharArray()) {
            int want = 0;
            for (char good : GOODS.toCharArray()) {
                want += good == give ? 0 : x.has(player, good) * Stages.one(good);
            }
            if (player != turn && want > 0 && x.has(turn, give) > 0) {
                int wanted = want;
                Due.due(false, () -> x.offer(Stages.one(give), wanted));
                Due.due(true, () -> x.take(player) >= 1);
            }
        }
    }

    private static int half(HexhavenIsle x, int player) {
        int due = x.goods(player) / 2;
        int told = 0;
        for (char good : GOODS.toCharArray()) {
            int given = Math.min(due, Math.min(9, x.has(player, good)));
            due -= given;
            told += given * Stages.one(good);
        }
        return told;
    }

    /** One for a house at any of the six corners, two for a town; all houses at a land count. */
    private static void cornersOfALand() {
        for (int k = 0; k < 6; k++) {
            int corner = k;
            HexhavenIsle x = Due.full(12);
            x.land(2, 2, 'g', 6);
            x.land(0, 4, 'o', 6);
            x.begin(2, 10);
            Due.put(x, 2, 2, corner);
            Due.put(x, 4, 0, 0);
            Due.put(x, 4, 4, 0);
            Due.put(x, 0, 4, 3);
            for (int i = 1; i <= 4; i++) {
                int before = x.has(0, 'g');
                Due.pass(x, 6);
                Due.due(before + 1, () -> x.has(0, 'g'));
            }
            int before = x.has(0, 'g');
            Due.roll(x, 3);
            Due.due(3, () -> x.town(2, 2, corner));
            x.end();
            Due.roll(x, 6);
            Due.due(before, () -> x.has(0, 'g'));
        }
        // three houses at one land, of both players
        HexhavenIsle x = Due.full(12);
        x.land(2, 2, 'g', 6);
        x.begin(2, 10);
        Due.put(x, 2, 2, 0);
        Due.put(x, 2, 2, 2);
        Due.put(x, 4, 4, 3);
        Due.put(x, 2, 2, 4);
        int own = x.has(0, 'g');
        int others = x.has(1, 'g');
        Due.roll(x, 6);
        Due.due(own + 2, () -> x.has(0, 'g'));
        Due.due(others + 1, () -> x.has(1, 'g'));
    }

    // ---- the bank

    /** The bank has just what two players get, or one less: then nobody gets it, and others are given all the same. */
    private static void bankHasEnoughForAll() {
        for (char good : "wbs".toCharArray()) {
            for (int left = 0; left <= 3; left++) {
                HexhavenIsle x = Stages.rich(10, 8);
                Stages.hand(x, 44444 + 5 * Stages.one(good == 'w' ? 'b' : 'w'));
                Due.due(3, () -> x.left(good));
                // others for that one, so that the bank has so many of it
                for (int i = 3; i > left; i--) {
                    char give = x.has(0, 'g') >= 4 ? 'g' : x.has(0, 'o') >= 4 ? 'o' : good == 'w' ? 'b' : 'w';
                    Due.due(4, () -> x.bank(give, good));
                }
                int due = left;
                Due.due(due, () -> x.left(good));
                int own = x.has(0, good);
                int others = x.has(1, good);
                int grain = x.left('g') >= 2 ? 1 : 0;
                int ownGrain = x.has(0, 'g');
                x.end();
                Due.roll(x, 6);
                int got = due >= 2 ? 1 : 0;
                Due.due(own + got, () -> x.has(0, good));
                Due.due(others + got, () -> x.has(1, good));
                Due.due(due - 2 * got, () -> x.left(good));
                Due.due(ownGrain + grain, () -> x.has(0, 'g'));
                Due.due(true, x::isTrue);
            }
        }
    }

    /** Where one player alone is to get two of a good, as of a town, what there is is given. */
    private static void bankGivesOneWhatThereIs() {
        for (int left = 0; left <= 4; left++) {
            HexhavenIsle x = Due.full(12);
            Stages.richLands(x);
            x.land(3, 3, 'd', 0);
            Stages.grow(x, 10, 8);
            Stages.hand(x, 77773);
            Due.due(3, () -> x.town(1, 3, 0));
            for (int i = 0; i < 9 && x.left('g') > 4; i++) {
                x.end();
                Due.pass(x, 6);
                Due.roll(x, 3);
            }
            int due = left;
            bring(x, 'g', left);
            Due.due(due, () -> x.left('g'));
            int own = x.has(0, 'g');
            int others = x.has(1, 'g');
            x.end();
            Due.roll(x, 6);
            Due.due(own + Math.min(due, 2), () -> x.has(0, 'g'));
            Due.due(others, () -> x.has(1, 'g'));
            Due.due(Math.max(0, due - 2), () -> x.left('g'));
            Due.due(true, x::isTrue);
        }
    }

    /** By trading with it the bank has so many of a good. */
    private static void bring(HexhavenIsle x, char good, int left) {
        for (int i = 0; i < 20 && x.left(good) != left; i++) {
            boolean isMore = x.left(good) > left;
            char found = ' ';
            for (char other : GOODS.toCharArray()) {
                boolean isFit = isMore ? x.has(x.turn(), other) >= x.rate(x.turn(), other) : x.left(other) > 0;
                found = other != good && isFit ? other : found;
            }
            char other = found;
            Due.due(4, () -> isMore ? x.bank(other, good) : x.bank(good, other));
        }
    }

    // ---- the thief

    /** Goods in their order, each as often as it is there: the first, the last, and round again. */
    private static void robbedGoods() {
        int[] hands = {21211, 70000, 7, 1, 10000, 11111, 303, 6};
        for (int hand : hands) {
            StringBuilder order = new StringBuilder();
            for (char good : GOODS.toCharArray()) {
                order.append(("" + good).repeat(Stages.digit(hand, good)));
            }
            int count = order.length();
            for (int i = 0; i < count; i++) {
                int place = i;
                HexhavenIsle x = Stages.rich(10, 8);
                Stages.hand(x, hand);
                x.end();
                Due.roll(x, 7);
                MissingTest.loseAll(x, 2);
                Due.pick(x, count, place);
                int z = x.seed(1);
                x.seed(z);
                int others = x.has(1, order.charAt(place));
                Due.due(order.charAt(place), () -> x.thief(1, 1, 0));
                Due.due((int) Due.next(z), () -> x.seed(1));
                Due.due(hand - Stages.one(order.charAt(place)), () -> Stages.held(x, 0));
                Due.due(others + 1, () -> x.has(1, order.charAt(place)));
            }
        }
    }

    /** The goods of the robber, ahead of those of the other one, are no matter. */
    private static void robbedGoodsOfTheSecond() {
        for (int hand : new int[] {11111, 1, 40000, 5, 21112}) {
            for (int i = 0; i < 8; i++) {
                HexhavenIsle x = Stages.rich(10, 3);
                Stages.hand(x, hand);
                x.end();
                Due.roll(x, 7);
                Due.due(0, x::turn);
                MissingTest.loseAll(x, 2);
                StringBuilder order = new StringBuilder();
                for (char good : GOODS.toCharArray()) {
                    order.append(("" + good).repeat(x.has(1, good)));
                }
                int place = i % order.length();
                Due.pick(x, order.length(), place);
                Due.due(order.charAt(place), () -> x.thief(3, 1, 1));
            }
        }
    }

    // ---- cards

    private static final String PILE = "kkkkkkkkkkkkkkvvvvvmmpprr";

    private static void pileOfCards() {
        for (int i = 0; i < 25; i++) {
            int place = i;
            HexhavenIsle x = Stages.rich(10, 8);
            TurnTest.buyAt(x, 25, place);
            char first = PILE.charAt(place);
            String rest = PILE.substring(0, place) + PILE.substring(place + 1);
            Due.due(1, () -> x.cards(0, first));
            Due.due(0, () -> x.cards(1, first));
            int next = (place * 7 + 5) % 24;
            char second = rest.charAt(next);
            TurnTest.buyAt(x, 24, next);
            Due.due(first == second ? 2 : 1, () -> x.cards(0, second));
        }
        // the first one that is left, and the last one, down to the end
        for (boolean isFirst : new boolean[] {true, false}) {
            HexhavenIsle x = Stages.rich(10, 8);
            for (int left = 25; left > 0; left--) {
                if (x.has(0, 's') == 0 || x.has(0, 'g') == 0 || x.has(0, 'o') == 0) {
                    x.end();
                    Due.pass(x, 6);
                    Due.roll(x, 6);
                    Stages.hand(x, 10333);
                }
                char card = PILE.charAt(isFirst ? 25 - left : left - 1);
                int has = x.cards(0, card);
                TurnTest.buyAt(x, left, isFirst ? 0 : left - 1);
                Due.due(has + 1, () -> x.cards(0, card));
            }
            Due.due(7, () -> x.points(0, false));
            Due.due(2, () -> x.points(0, true));
        }
    }

    /** A card of that place in the pile, bought two turns ahead, in the hand of the player 0 in actions. */
    private static HexhavenIsle holding(int place) {
        HexhavenIsle x = Stages.rich(10, 8);
        TurnTest.buyAt(x, 25, place);
        x.end();
        Due.pass(x, 3);
        Due.roll(x, 3);
        Stages.hand(x, 88844);
        return x;
    }

    /** As far as the bank has them: two, one, or none. */
    private static void plenty() {
        for (char good : GOODS.toCharArray()) {
            for (int left = 0; left <= 3; left++) {
                HexhavenIsle x = holding(21);
                bring(x, good, left);
                int due = left;
                Due.due(due, () -> x.left(good));
                int own = x.has(0, good);
                int all = x.goods(0);
                int got = Math.min(2, due);
                Due.due(all + got, () -> x.play('p', good, good));
                Due.due(own + got, () -> x.has(0, good));
                Due.due(due - got, () -> x.left(good));
                Due.due(0, () -> x.cards(0, 'p'));
                // of two unlike ones the other one comes all the same
                char other = good == 'w' ? 'b' : 'w';
                for (boolean isFirst : new boolean[] {true, false}) {
                    HexhavenIsle y = holding(22);
                    bring(y, good, due);
                    int before = y.goods(0);
                    int more = Math.min(1, due) + Math.min(1, y.left(other));
                    Due.due(before + more, () -> isFirst ? y.play('p', good, other) : y.play('p', other, good));
                    Due.due(true, y::isTrue);
                }
            }
        }
    }

    /** All of a good from all others, and of no other good. */
    private static void monopolyOfFour() {
        for (char good : GOODS.toCharArray()) {
            HexhavenIsle x = four(6);
            Due.pass(x, 6);
            Due.pass(x, 3);
            Due.roll(x, 3);
            TurnTest.buyAt(x, 25, 20);
            x.end();
            Due.round(x, 3, 3);
            Due.roll(x, 3);
            int sum = x.has(0, good) + x.has(1, good) + x.has(2, good) + x.has(3, good);
            int own = x.has(2, good);
            Due.due(true, () -> sum > own);
            int all = x.goods(2) - own + sum;
            int[] rest = new int[4];
            for (int i = 0; i < 4; i++) {
                rest[i] = x.goods(i) - x.has(i, good);
            }
            Due.due(all, () -> x.play('m', good, 'x'));
            for (int i = 0; i < 4; i++) {
                int player = i;
                int due = i == 2 ? sum : 0;
                Due.due(due, () -> x.has(player, good));
                Due.due(rest[player] + due, () -> x.goods(player));
            }
            Due.due(19 - sum, () -> x.left(good));
        }
        // the second time there is nothing to be taken, which is no error
        HexhavenIsle x = Stages.rich(10, 8);
        TurnTest.buyAt(x, 25, 19);
        TurnTest.buyAt(x, 24, 19);
        for (int i = 0; i < 2; i++) {
            x.end();
            Due.pass(x, 3);
            Due.roll(x, 3);
            Due.due(true, () -> x.play('m', 'b', 'b') == x.goods(0));
            Due.due(16, () -> x.has(0, 'b'));
        }
    }

    /** Two roads of this turn, those ahead of the card and the third one aside. */
    private static void freeRoads() {
        HexhavenIsle x = holding(23);
        x.road(1, 1, 1);
        Due.due(77844, () -> Stages.held(x, 0));
        x.play('r', 'w', 'w');
        int[] due = {77844, 77844, 66844, 55844};
        for (int i = 0; i < 4; i++) {
            int side = i + 2;
            int held = due[i];
            Due.due(true, () -> x.road(1, 1, side) >= 3);
            Due.due(held, () -> Stages.held(x, 0));
        }
        // one is built, the other one ends with the turn
        HexhavenIsle y = holding(24);
        y.play('r', 'w', 'w');
        y.road(1, 1, 1);
        y.end();
        Due.roll(y, 3);
        Stages.hand(y, 33333);
        y.road(3, 1, 1);
        Due.due(22333, () -> Stages.held(y, 1));
        y.end();
        Due.roll(y, 3);
        Stages.hand(y, 33333);
        y.road(1, 1, 2);
        Due.due(22333, () -> Stages.held(y, 0));
    }

    // ---- trading

    /** Of all sides, those that begin or end at an own house or town, and for their owner alone. */
    private static void harbours() {
        int house = PlainIsle.point(1, 1, 0);
        int second = PlainIsle.point(1, 3, 0);
        for (int i = 0; i < 150; i++) {
            for (char kind : "?g".toCharArray()) {
                HexhavenIsle x = Due.full(12);
                Stages.richLands(x);
                x.harbour(column(i), row(i), corner(i), kind);
                Stages.grow(x, 10, 2);
                boolean isOwn = pair(i).contains(house) || pair(i).contains(second);
                boolean isOthers = pair(i).contains(PlainIsle.point(3, 1, 0)) || pair(i).contains(PlainIsle.point(3, 3, 0));
                for (char good : GOODS.toCharArray()) {
                    int due = kind == '?' ? 3 : good == 'g' ? 2 : 4;
                    Due.due(isOwn ? due : 4, () -> x.rate(0, good));
                    Due.due(isOthers ? due : 4, () -> x.rate(1, good));
                }
                Stages.hand(x, 23);
                x.town(1, 3, 0);
                for (char good : GOODS.toCharArray()) {
                    int due = kind == '?' ? 3 : good == 'g' ? 2 : 4;
                    Due.due(isOwn ? due : 4, () -> x.rate(0, good));
                }
            }
        }
    }

    // ---- advice

    /** The first name of a corner, by rows, in these by columns, in these by corners, of sea too. */
    private static void advice() {
        for (int place = 0; place < 25; place++) {
            HexhavenIsle x = new HexhavenIsle();
            int c = place % 5;
            int r = place / 5;
            // two deserts elsewhere
            x.land(c, (r + 2) % 5, 'd', 0);
            x.land((c + 2) % 5, (r + 2) % 5, 'd', 0);
            x.land(c, r, 'o', 6);
            x.begin(2, 3);
            int first = firstOf(pointsOf(c, r), -1);
            for (char worth : "pvn".toCharArray()) {
                Due.due(first, () -> x.advise(worth));
            }
            // then the first one that is no corner next to it
            x.house(first / 100, first / 10 % 10, first % 10);
            for (int k = 0; k < 150 && x.phase() == 'w'; k++) {
                int side = k;
                Twin.answer(x, y -> y.road(column(side), row(side), corner(side)));
            }
            int second = firstOf(pointsOf(c, r), PlainIsle.point(first / 100, first / 10 % 10, first % 10));
            for (char worth : "pvn".toCharArray()) {
                Due.due(second, () -> x.advise(worth));
            }
        }
        // on a full island of one kind, the inner corners with three lands
        HexhavenIsle x = new HexhavenIsle();
        for (int i = 0; i < 25; i++) {
            x.land(i % 5, i / 5, 'w', 9);
        }
        x.begin(2, 3);
        List<Integer> inner = new ArrayList<>();
        for (int i = 0; i < 150; i++) {
            if (PlainIsle.placesAtPoint(point(i)).size() == 3) {
                inner.add(point(i));
            }
        }
        int first = firstOf(inner, -1);
        Due.due(first, () -> x.advise('p'));
        Due.due(first, () -> x.advise('v'));
        Due.due(first, () -> x.advise('n'));
    }

    private static int firstOf(List<Integer> points, int built) {
        for (int i = 0; i < 150; i++) {
            if (points.contains(point(i)) && point(i) != built && !PlainIsle.isNear(point(i), built)) {
                return 100 * column(i) + 10 * row(i) + corner(i);
            }
        }
        return -1;
    }

    /** For each of 36 rolls what the lands give, that of the thief aside. */
    private static void expects() {
        for (int number : NUMBERS) {
            HexhavenIsle x = Due.full(12);
            x.land(1, 1, 's', number);
            x.land(4, 4, 'd', 6);
            Due.beginTwo(x, 10);
            int rolls = 0;
            for (int dice = 0; dice < 36; dice++) {
                rolls += dice / 6 + dice % 6 + 2 == number ? 1 : 0;
            }
            int due = rolls;
            for (int player = 0; player < 2; player++) {
                int p = player;
                int sum = 0;
                for (int place = 0; place < 25; place++) {
                    sum += place == 6 || place == 24 ? 0 : housesAt(x, p, place);
                }
                // all others with 12 come once
                int all = sum + (p == 0 ? due : 0);
                Due.due(all, () -> x.expects(p, 'w') + x.expects(p, 'b') + x.expects(p, 's') + x.expects(p, 'g')
                        + x.expects(p, 'o'));
            }
            int before = x.expects(0, 's');
            Due.roll(x, 7);
            x.thief(1, 1, -1);
            Due.due(before - due, () -> x.expects(0, 's'));
        }
        HexhavenIsle x = Stages.rich(10, 8);
        for (char good : GOODS.toCharArray()) {
            Due.due(5, () -> x.expects(0, good));
        }
        Stages.hand(x, 23);
        x.town(1, 3, 0);
        for (char good : GOODS.toCharArray()) {
            Due.due(good == 'g' || good == 'o' ? 10 : 5, () -> x.expects(0, good));
            Due.due(5, () -> x.expects(1, good));
            // the bank may have none of it
            HexhavenIsle y = Stages.rich(10, 8);
            Stages.hand(y, 88844);
            bring(y, good, 0);
            Due.due(0, () -> y.left(good));
            Due.due(5, () -> y.expects(0, good));
            Due.due(5, () -> y.expects(1, good));
        }
    }

    private static int housesAt(HexhavenIsle x, int player, int place) {
        int count = 0;
        for (int k = 0; k < 6; k++) {
            count += x.at(place % 5, place / 5, k) == player ? 1 : 0;
        }
        return count;
    }
}
