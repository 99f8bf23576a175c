import java.util.List;
import java.util.function.Supplier;

/**
 * Every row of the document with UnsupportedOperationException, NoSuchElementException or ArithmeticException:
 * what is just enough, what is one too few, and that nothing has changed behind a refused call.
 */
public final class MissingTest {
    private static final String GOODS = "wbsgo";
    private static final String PILE = "kkkkkkkkkkkkkkvvvvvmmpprr";

    public static void main(String[] args) {
        begin();
        costs();
        roadsRunOut();
        housesRunOut();
        townsRunOut();
        housesAtTheBeginning();
        roadsAtTheBeginning();
        housesInActions();
        roadsInActions();
        towns();
        loseHalf();
        loseWhatIsThere();
        thief();
        thiefOfOne();
        bank();
        bankHasOne();
        offer();
        take();
        takeOfNone();
        buy();
        play();
        playOneInATurn();
        advise();
        meanPoints();
        Due.finish();
    }

    // ---- goods as five digits

    private static int one(char good) {
        return Stages.one(good);
    }

    private static int digit(int goods, char good) {
        return Stages.digit(goods, good);
    }

    private static int count(int goods) {
        int sum = 0;
        for (char good : GOODS.toCharArray()) {
            sum += digit(goods, good);
        }
        return sum;
    }

    private static boolean holds(int goods, int part) {
        for (char good : GOODS.toCharArray()) {
            if (digit(goods, good) < digit(part, good)) {
                return false;
            }
        }
        return true;
    }

    /** A good that is neither of both. */
    private static char third(char one, char other) {
        for (char good : GOODS.toCharArray()) {
            if (good != one && good != other) {
                return good;
            }
        }
        return '-';
    }

    // ---- the beginning of a game

    private static void begin() {
        for (int count = 0; count <= 25; count++) {
            for (String kinds : new String[] {"w", "d", "od"}) {
                int n = count;
                Supplier<HexhavenIsle> make = () -> lands(n, kinds);
                if (count < 3) {
                    Twin.refused(make, Due.NOT_SO, x -> x.begin(2, 3), x -> x.begin(4, 10));
                } else {
                    Due.due(n, () -> make.get().begin(2, 3));
                    Due.due(n, () -> make.get().begin(4, 10));
                }
            }
        }
        // behind a game, too; the game that is over stays as it was
        Due.due('o', () -> overWith(2).phase());
        Twin.refused(() -> overWith(2), Due.NOT_SO, x -> x.begin(2, 3), x -> x.begin(3, 7));
        Due.due(3, () -> overWith(3).begin(2, 3));
    }

    /** That many lands, which were 25 ahead. */
    private static HexhavenIsle lands(int count, String kinds) {
        HexhavenIsle x = new HexhavenIsle();
        for (int i = 0; i < 25; i++) {
            x.land(i % 5, i / 5, kinds.charAt(i % kinds.length()), 4);
        }
        sink(x, count);
        return x;
    }

    private static HexhavenIsle overWith(int count) {
        HexhavenIsle x = Due.full(12);
        ScoreTest.quickWin(x, 1);
        sink(x, count);
        return x;
    }

    private static void sink(HexhavenIsle x, int count) {
        for (int i = 24; i >= count; i--) {
            x.land(i % 5, i / 5, '-', 4);
        }
    }

    // ---- what building costs

    /** The player 0 in actions with just these goods, a road ahead of the place for a house. */
    private static Supplier<HexhavenIsle> builder(int goods) {
        return () -> {
            HexhavenIsle x = Stages.rich(10, 8);
            x.road(1, 1, 1);
            Stages.hand(x, goods);
            return x;
        };
    }

    private static void costs() {
        cost(11000, 3, x -> x.road(1, 1, 2));
        cost(11110, 3, x -> x.house(1, 1, 2));
        cost(23, 3, x -> x.town(1, 3, 0));
        cost(111, 24, HexhavenIsle::buy);
    }

    private static void cost(int goods, int answer, Twin.Call call) {
        HexhavenIsle x = builder(goods).get();
        int[] left = left(x);
        Due.due(answer, () -> call.on(x));
        Due.due(0, () -> x.goods(0));
        HexhavenIsle y = builder(44444).get();
        Due.due(answer, () -> call.on(y));
        Due.due(44444 - goods, () -> Stages.held(y, 0));
        for (char good : GOODS.toCharArray()) {
            int due = digit(goods, good);
            int one = one(good);
            Due.due(left[GOODS.indexOf(good)] + due, () -> x.left(good));
            if (due > 0) {
                // of the others there are as many as it takes, and then more than enough
                Twin.refused(builder(goods - one), Due.NOT_SO, call);
                Twin.refused(builder(44444 - (5 - due) * one), Due.NOT_SO, call);
                Twin.refused(builder(44444 - 4 * one), Due.NOT_SO, call);
            }
        }
    }

    private static int[] left(HexhavenIsle x) {
        int[] left = new int[5];
        for (int i = 0; i < 5; i++) {
            left[i] = x.left(GOODS.charAt(i));
        }
        return left;
    }

    // ---- how many roads, houses and towns there are

    /** So many roads of the player 0, two at least, then these goods, and a card of roads. */
    private static HexhavenIsle withRoads(int count, int goods) {
        HexhavenIsle x = Stages.rich(10, 6);
        TurnTest.buyAt(x, 25, 24);
        x.end();
        Due.pass(x, 6);
        Due.roll(x, 6);
        for (int i = 2; i < count; i++) {
            if (x.has(0, 'w') == 0 || x.has(0, 'b') == 0) {
                Stages.hand(x, 77000);
            }
            Due.due(true, () -> roadAnywhere(x) >= 1);
        }
        Stages.hand(x, goods);
        return x;
    }

    private static int anySide(HexhavenIsle x) {
        for (int i = 0; i < 150; i++) {
            if (x.mayRoad(x.turn(), i % 5, i / 5 % 5, i / 25)) {
                return i;
            }
        }
        return -1;
    }

    static int roadAnywhere(HexhavenIsle x) {
        int side = anySide(x);
        return x.road(side % 5, side / 5 % 5, side / 25);
    }

    /** Two free roads to come, so many roads, and an ore. */
    private static HexhavenIsle freeAt(int count) {
        HexhavenIsle x = withRoads(count, 1);
        Due.due(1, () -> x.play('r', 'w', 'w'));
        return x;
    }

    private static void roadsRunOut() {
        HexhavenIsle x = withRoads(14, 22000);
        Due.due(true, () -> roadAnywhere(x) >= 5);
        Due.due(11000, () -> Stages.held(x, 0));
        Due.due(true, x::isTrue);
        Due.due(true, () -> anySide(withRoads(15, 22000)) >= 0);
        Twin.refused(() -> withRoads(15, 22000), Due.NOT_SO, MissingTest::roadAnywhere);
        // a free road, too, is one of the fifteen
        HexhavenIsle y = freeAt(13);
        Due.due(true, () -> roadAnywhere(y) >= 5);
        Due.due(true, () -> roadAnywhere(y) >= 5);
        Due.due(1, () -> Stages.held(y, 0));
        Due.due(Due.NOT_SO, () -> roadAnywhere(y));
        Twin.refused(() -> freeAt(15), Due.NOT_SO, MissingTest::roadAnywhere);
        Twin.refused(() -> {
            HexhavenIsle last = freeAt(14);
            roadAnywhere(last);
            return last;
        }, Due.NOT_SO, MissingTest::roadAnywhere);
    }

    /** The player 0 in actions with so many houses, two to five, and all roads for a sixth at (1, 3, 4). */
    private static HexhavenIsle withHouses(int count) {
        HexhavenIsle x = Stages.rich(10, 8);
        Stages.hand(x, 99400);
        for (int side = 1; side <= 3; side++) {
            x.road(1, 1, side);
            x.road(1, 3, side);
        }
        int[][] spots = {{1, 1, 2}, {1, 1, 4}, {1, 3, 2}};
        for (int i = 2; i < count; i++) {
            Stages.hand(x, 11111);
            int[] s = spots[i - 2];
            int seen = i + 1;
            Due.due(seen, () -> x.house(s[0], s[1], s[2]));
        }
        return x;
    }

    private static void housesRunOut() {
        for (int count = 2; count < 5; count++) {
            HexhavenIsle x = withHouses(count);
            Stages.hand(x, 11110);
            int seen = count + 1;
            Due.due(seen, () -> x.house(1, 3, 4));
            Due.due(true, x::isTrue);
        }
        Supplier<HexhavenIsle> five = () -> {
            HexhavenIsle x = withHouses(5);
            Stages.hand(x, 22220);
            return x;
        };
        Due.due(true, () -> five.get().mayHouse(0, 1, 3, 4));
        Twin.refused(five, Due.NOT_SO, x -> x.house(1, 3, 4), x -> x.house(0, 3, 2));
        Twin.refused(five, Due.MISSING, x -> x.advise('p'), x -> x.advise('v'), x -> x.advise('n'));
        // a house comes back by a town, and no more than that one
        HexhavenIsle y = five.get();
        Stages.hand(y, 10023);
        Due.due(6, () -> y.town(1, 1, 0));
        Due.due(32, () -> y.advise('p'));
        Stages.hand(y, 22220);
        Due.due(7, () -> y.house(1, 3, 4));
        Due.due(Due.MISSING, () -> y.advise('p'));
        Due.due(true, y::isTrue);
    }

    private static void townsRunOut() {
        for (int count = 0; count <= 4; count++) {
            int n = count;
            Supplier<HexhavenIsle> make = () -> withTowns(n);
            Twin.refused(make, Due.NOT_SO, x -> x.town(3, 1, 0), x -> x.town(1, 3, 3));
            if (count < 4) {
                Due.due(6 + count, () -> make.get().town(1, 3, 2));
            } else {
                Due.due(0, () -> make.get().at(1, 3, 2));
                Twin.refused(make, Due.NOT_SO, x -> x.town(1, 3, 2), x -> x.town(1, 1, 0));
            }
        }
    }

    /** The player 0 with five houses, so many of them as towns, and goods for a town. */
    private static HexhavenIsle withTowns(int count) {
        int[][] spots = {{1, 1, 0}, {1, 1, 2}, {1, 1, 4}, {1, 3, 0}};
        HexhavenIsle x = withHouses(5);
        for (int i = 0; i < count; i++) {
            Stages.hand(x, 10023);
            int[] s = spots[i];
            int seen = 6 + i;
            Due.due(seen, () -> x.town(s[0], s[1], s[2]));
            Due.due(10, () -> x.at(s[0], s[1], s[2]));
            Due.due(Due.NOT_SO, () -> x.town(s[0], s[1], s[2]));
        }
        Stages.hand(x, 23);
        return x;
    }

    // ---- where houses, roads and towns may be, asked of points and pairs of points of a plane

    private static final List<String> PATCHY = List.of("00w", "20b", "30s", "11g", "41o", "02w", "22d", "32b", "13s",
            "43g", "04o", "24w", "44b");

    /** Lands that leave sea between them, and a desert. */
    private static HexhavenIsle patchy() {
        HexhavenIsle x = new HexhavenIsle();
        for (String land : PATCHY) {
            x.land(land.charAt(0) - '0', land.charAt(1) - '0', land.charAt(2), 6);
        }
        x.begin(3, 10);
        return x;
    }

    /** All but the last two of the beginning; the player 1 is to put a house. */
    private static HexhavenIsle patchyWithHouses() {
        HexhavenIsle x = patchy();
        Due.put(x, 1, 1, 0);
        Due.put(x, 3, 2, 2);
        Due.put(x, 2, 2, 5);
        Due.put(x, 0, 0, 5);
        return x;
    }

    private static boolean isPatchyLand(int column, int row) {
        return PATCHY.stream().anyMatch(land -> land.startsWith("" + column + row));
    }

    private static boolean isPatchyCorner(int point) {
        return PlainIsle.placesAtPoint(point).stream().anyMatch(place -> isPatchyLand(place[0], place[1]));
    }

    private static boolean isPatchySide(int column, int row, int side) {
        for (int i = 0; i < 150; i++) {
            boolean isSame = PlainIsle.pair(i % 5, i / 5 % 5, i / 25).equals(PlainIsle.pair(column, row, side));
            if (isSame && isPatchyLand(i % 5, i / 5 % 5)) {
                return true;
            }
        }
        return false;
    }

    static boolean isApart(HexhavenIsle x, int point) {
        for (int i = 0; i < 150; i++) {
            int other = PlainIsle.point(i % 5, i / 5 % 5, i / 25);
            boolean isNear = other == point || PlainIsle.isNear(other, point);
            if (isNear && x.at(i % 5, i / 5 % 5, i / 25) != -1) {
                return false;
            }
        }
        return true;
    }

    private static void housesAtTheBeginning() {
        housesAtTheBeginning(MissingTest::patchy);
        housesAtTheBeginning(MissingTest::patchyWithHouses);
    }

    private static void housesAtTheBeginning(Supplier<HexhavenIsle> make) {
        Twin twin = new Twin(make);
        HexhavenIsle before = make.get();
        for (int i = 0; i < 150; i++) {
            int c = i % 5;
            int r = i / 5 % 5;
            int k = i / 25;
            int point = PlainIsle.point(c, r, k);
            boolean isFree = isPatchyCorner(point) && isApart(before, point);
            for (int player = 0; player < 3; player++) {
                int p = player;
                Due.due(isFree, () -> before.mayHouse(p, c, r, k));
            }
            if (isFree) {
                HexhavenIsle y = make.get();
                Due.due(true, () -> y.house(c, r, k) >= 1 && y.at(c, r, k) == y.turn() && y.phase() == 'w');
            } else {
                twin.quickly(Due.NOT_SO, x -> x.house(c, r, k));
            }
        }
        twin.playsOnAlike();
    }

    /** The road of the beginning begins at the last house, and lies at a land. */
    private static void roadsAtTheBeginning() {
        int[][] spots = {{1, 3, 3}, {4, 1, 1}, {0, 2, 4}, {2, 4, 3}, {2, 0, 0}, {2, 0, 2}, {3, 0, 3}, {4, 4, 5}};
        for (int[] s : spots) {
            Supplier<HexhavenIsle> make = () -> {
                HexhavenIsle x = patchyWithHouses();
                Due.due(2, () -> x.house(s[0], s[1], s[2]));
                return x;
            };
            int house = PlainIsle.point(s[0], s[1], s[2]);
            Twin twin = new Twin(make);
            int found = 0;
            for (int i = 0; i < 150; i++) {
                int c = i % 5;
                int r = i / 5 % 5;
                int k = i / 25;
                if (isPatchySide(c, r, k) && PlainIsle.pair(c, r, k).contains(house)) {
                    found++;
                    HexhavenIsle y = make.get();
                    Due.due(true, () -> y.mayRoad(1, c, r, k) && y.road(c, r, k) == 1 && y.roadAt(c, r, k) == 1);
                } else {
                    twin.quickly(Due.NOT_SO, x -> x.road(c, r, k));
                }
            }
            twin.playsOnAlike();
            int sides = found;
            Due.due(true, () -> sides >= 2);
        }
    }

    /** Actions of the player 1, whose roads meet a house and a town of the other one; goods for a house. */
    private static HexhavenIsle crossing() {
        HexhavenIsle x = Stages.rich(10, 8);
        Stages.hand(x, 55244);
        x.road(1, 1, 1);
        x.road(2, 2, 0);
        x.road(2, 2, 1);
        x.house(2, 3, 0);
        x.town(2, 3, 0);
        x.end();
        Due.roll(x, 3);
        Stages.hand(x, 99333);
        // to the town
        x.road(3, 3, 5);
        x.road(2, 3, 0);
        // round (2, 0) to the house at (1, 1, 0)
        x.road(3, 1, 5);
        x.road(2, 1, 0);
        x.road(2, 0, 1);
        x.road(2, 0, 0);
        x.road(2, 0, 5);
        x.road(2, 0, 4);
        Due.due(11333, () -> Stages.held(x, 1));
        Due.due(true, x::isTrue);
        return x;
    }

    private static int at(HexhavenIsle x, int point) {
        for (int i = 0; i < 150; i++) {
            if (PlainIsle.point(i % 5, i / 5 % 5, i / 25) == point) {
                return x.at(i % 5, i / 5 % 5, i / 25);
            }
        }
        return -1;
    }

    static boolean isRoadEnd(HexhavenIsle x, int player, int point) {
        for (int i = 0; i < 150; i++) {
            if (x.roadAt(i % 5, i / 5 % 5, i / 25) == player
                    && PlainIsle.pair(i % 5, i / 5 % 5, i / 25).contains(point)) {
                return true;
            }
        }
        return false;
    }

    static boolean mayBegin(HexhavenIsle x, int player, int point) {
        int built = at(x, point);
        return built >= 0 ? built % 10 == player : isRoadEnd(x, player, point);
    }

    private static void housesInActions() {
        HexhavenIsle before = crossing();
        Twin twin = new Twin(MissingTest::crossing);
        int found = 0;
        for (int i = 0; i < 150; i++) {
            int c = i % 5;
            int r = i / 5 % 5;
            int k = i / 25;
            int point = PlainIsle.point(c, r, k);
            for (int player = 0; player < 2; player++) {
                int p = player;
                boolean isOpen = isApart(before, point) && isRoadEnd(before, p, point);
                Due.due(isOpen, () -> before.mayHouse(p, c, r, k));
                if (p == 1 && isOpen) {
                    found++;
                    HexhavenIsle y = crossing();
                    Due.due(5, () -> y.house(c, r, k));
                    Due.due(1, () -> y.at(c, r, k));
                } else if (p == 1) {
                    twin.quickly(Due.NOT_SO, x -> x.house(c, r, k));
                }
            }
        }
        twin.playsOnAlike();
        int spots = found;
        Due.due(true, () -> spots >= 5);
    }

    private static void roadsInActions() {
        HexhavenIsle before = crossing();
        Twin twin = new Twin(MissingTest::crossing);
        for (int i = 0; i < 150; i++) {
            int c = i % 5;
            int r = i / 5 % 5;
            int k = i / 25;
            for (int player = 0; player < 2; player++) {
                int p = player;
                boolean isOpen = before.roadAt(c, r, k) == -1
                        && PlainIsle.pair(c, r, k).stream().anyMatch(point -> mayBegin(before, p, point));
                Due.due(isOpen, () -> before.mayRoad(p, c, r, k));
                if (p == 1 && isOpen) {
                    HexhavenIsle y = crossing();
                    Due.due(true, () -> y.road(c, r, k) >= 7 && y.roadAt(c, r, k) == 1);
                } else if (p == 1) {
                    twin.quickly(Due.NOT_SO, x -> x.road(c, r, k));
                }
            }
        }
        twin.playsOnAlike();
        // at the house and at the town of the other one the roads end
        Due.due(false, () -> before.mayRoad(1, 1, 1, 5));
        Due.due(true, () -> before.mayRoad(0, 1, 1, 5));
        Due.due(false, () -> before.mayRoad(1, 2, 3, 5));
        Due.due(true, () -> before.mayRoad(0, 2, 3, 5));
    }

    /** Of all corners, those with an own house, and no others. */
    private static void towns() {
        Supplier<HexhavenIsle> make = () -> {
            HexhavenIsle x = crossing();
            x.end();
            Due.roll(x, 3);
            Stages.hand(x, 46);
            return x;
        };
        HexhavenIsle before = make.get();
        Twin twin = new Twin(make);
        int found = 0;
        for (int i = 0; i < 150; i++) {
            int c = i % 5;
            int r = i / 5 % 5;
            int k = i / 25;
            if (before.at(c, r, k) == 0) {
                found++;
                HexhavenIsle y = make.get();
                Due.due(5, () -> y.town(c, r, k));
                Due.due(10, () -> y.at(c, r, k));
                Due.due(23, () -> Stages.held(y, 0));
            } else {
                twin.quickly(Due.NOT_SO, x -> x.town(c, r, k));
            }
        }
        twin.playsOnAlike();
        int names = found;
        Due.due(6, () -> names);
    }

    // ---- losses

    /** The player 0 ends a turn with those goods, and the player 1 rolls a 7. */
    private static HexhavenIsle seven(int goods) {
        HexhavenIsle x = Stages.rich(10, 8);
        Stages.hand(x, goods);
        x.end();
        Due.roll(x, 7);
        return x;
    }

    /** 7 goods are kept, of 8 and of 9 are lost 4. */
    private static void loseHalf() {
        int[][] cases = {{32110, 0}, {42110, 4}, {42111, 4}, {52111, 5}, {52112, 5}, {53112, 6}, {99312, 12}};
        int[] parts = {0, 1, 10, 1000, 1110, 2100, 10000, 11000, 21000, 31000, 21100, 40000, 31100, 41000, 32100,
            41110, 42100, 50000, 32110, 42110, 43110, 63110, 73110, 82110, 83110, 93110, 99312, 99999};
        for (int[] one : cases) {
            Supplier<HexhavenIsle> make = () -> seven(one[0]);
            Twin twin = new Twin(make);
            int found = 0;
            for (int part : parts) {
                if (one[1] > 0 && count(part) == one[1] && holds(one[0], part)) {
                    found++;
                    HexhavenIsle y = make.get();
                    Due.due(1, () -> y.lose(0, part));
                    Due.due(one[0] - part, () -> Stages.held(y, 0));
                    Due.due('l', y::phase);
                    Due.due(Due.NOT_SO, () -> y.lose(0, part));
                    Due.due(true, y::isTrue);
                } else {
                    twin.quickly(Due.NOT_SO, x -> x.lose(0, part));
                }
            }
            twin.playsOnAlike();
            int halves = found;
            Due.due(one[1] > 0, () -> halves > 0);
        }
        // nobody has more than 7: none is lost
        HexhavenIsle z = Stages.rich(10, 1);
        Due.due(7, () -> z.goods(0));
        Due.due(7, () -> z.goods(1));
        z.end();
        Due.roll(z, 7);
        Due.due('t', z::phase);
        Due.due(Due.NOT_NOW, () -> z.lose(0, 11100));
        Due.due(Due.NOT_NOW, () -> z.lose(1, 11100));
    }

    /** Of each good, all that there is can be lost, and no more. */
    private static void loseWhatIsThere() {
        for (char good : GOODS.toCharArray()) {
            int one = one(good);
            int other = one(third(good, good));
            Due.due(1, () -> seven(3 * one + 5 * other).lose(0, 3 * one + other));
            Due.due(1, () -> seven(3 * one + 5 * other).lose(0, 4 * other));
            Twin.refused(() -> seven(3 * one + 5 * other), Due.NOT_SO, x -> x.lose(0, 4 * one),
                    x -> x.lose(0, 3 * one), x -> x.lose(0, 3 * one + 2 * other));
            Due.due(1, () -> seven(9 * one + 9 * other).lose(0, 9 * one));
            Due.due(1, () -> seven(8 * one).lose(0, 4 * one));
        }
        // of a player with more than 9 of each good
        Due.due(83, () -> seven(10).goods(1));
        Twin.refused(() -> seven(10), Due.NOT_SO, x -> x.lose(1, 99994), x -> x.lose(1, 99996), x -> x.lose(0, 0),
                x -> x.lose(0, 10));
        Due.due(0, () -> seven(10).lose(1, 99995));
        Due.due(0, () -> seven(10).lose(1, 59999));
    }

    static void loseAll(HexhavenIsle x, int players) {
        for (int p = 0; p < players; p++) {
            int player = p;
            int half = half(x, player);
            if (x.phase() == 'l' && x.goods(player) > 7) {
                Due.due(true, () -> x.lose(player, half) >= 0);
            }
        }
    }

    private static int half(HexhavenIsle x, int player) {
        int due = x.goods(player) / 2;
        int told = 0;
        for (char good : GOODS.toCharArray()) {
            int given = Math.min(due, Math.min(9, x.has(player, good)));
            due -= given;
            told += given * one(good);
        }
        return told;
    }

    // ---- the thief

    /** Three players at (2, 2); the player 0 is to move the thief, and the player 2 has no goods. */
    private static HexhavenIsle robbing() {
        HexhavenIsle x = Due.full(12);
        x.land(0, 0, 'd', 0);
        x.land(4, 4, 'd', 0);
        x.land(4, 0, '-', 0);
        x.land(0, 4, '-', 0);
        x.land(2, 4, '-', 0);
        x.begin(3, 10);
        Due.put(x, 2, 2, 0);
        Due.put(x, 2, 2, 2);
        Due.put(x, 2, 2, 4);
        // a corner of a desert alone brings no good
        Due.put(x, 4, 4, 3);
        Due.put(x, 4, 2, 1);
        Due.put(x, 0, 2, 5);
        Due.due(0, () -> x.goods(2));
        Due.roll(x, 7);
        return x;
    }

    private static void thief() {
        thief(MissingTest::robbing, 3);
        // the player 2 robs both others
        thief(() -> {
            HexhavenIsle x = robbing();
            x.thief(1, 1, -1);
            x.end();
            Due.pass(x, 3);
            Due.roll(x, 7);
            return x;
        }, 3);
        // the other one has a town
        thief(() -> {
            HexhavenIsle x = crossing();
            x.end();
            Due.pass(x, 3);
            Due.roll(x, 7);
            loseAll(x, 2);
            return x;
        }, 2);
    }

    private static void thief(Supplier<HexhavenIsle> make, int players) {
        HexhavenIsle before = make.get();
        Due.due('t', before::phase);
        Twin twin = new Twin(make);
        int moved = 0;
        for (int i = 0; i < 25 * (players + 1); i++) {
            int c = i % 5;
            int r = i / 5 % 5;
            int from = i / 25 - 1;
            boolean isOther = isRobbingLand(before, c, r) && before.thiefAt() != 10 * c + r;
            if (isOther && (from < 0 ? robbable(before, players, c, r) == 0 : isRobbable(before, from, c, r))) {
                moved++;
                HexhavenIsle y = make.get();
                int goods = y.goods(y.turn());
                Due.due(from < 0, () -> y.thief(c, r, from) == '-');
                Due.due(goods + (from < 0 ? 0 : 1), () -> y.goods(y.turn()));
                Due.due(10 * c + r, y::thiefAt);
                Due.due('a', y::phase);
                Due.due(true, y::isTrue);
            } else {
                twin.quickly(Due.NOT_SO, x -> x.thief(c, r, from));
            }
        }
        twin.playsOnAlike();
        int count = moved;
        Due.due(true, () -> count > 10);
    }

    /** The other islands have no sea. */
    private static boolean isRobbingLand(HexhavenIsle x, int column, int row) {
        return x.landShare() == 1f || !List.of(40, 4, 24).contains(10 * column + row);
    }

    private static boolean isRobbable(HexhavenIsle x, int player, int column, int row) {
        boolean isThere = false;
        for (int k = 0; k < 6; k++) {
            int built = x.at(column, row, k);
            isThere |= built >= 0 && built % 10 == player;
        }
        return isThere && player != x.turn() && x.goods(player) > 0;
    }

    private static int robbable(HexhavenIsle x, int players, int column, int row) {
        int count = 0;
        for (int player = 0; player < players; player++) {
            count += isRobbable(x, player, column, row) ? 1 : 0;
        }
        return count;
    }

    /** Who has one good can be robbed of it, and then of none. */
    private static void thiefOfOne() {
        for (char good : GOODS.toCharArray()) {
            HexhavenIsle x = seven(one(good));
            loseAll(x, 2);
            Due.due('t', x::phase);
            Due.due(Due.NOT_SO, () -> x.thief(1, 1, -1));
            Due.due(good, () -> x.thief(1, 1, 0));
            Due.due(0, () -> x.goods(0));
            x.end();
            Due.pass(x, 3);
            Due.roll(x, 7);
            loseAll(x, 2);
            Due.due(Due.NOT_SO, () -> x.thief(1, 0, 0));
            Due.due('-', () -> x.thief(1, 0, -1));
        }
    }

    // ---- trading

    /** The house of the player 0 at (1, 1, 0) is at the corners of both harbours. */
    private static HexhavenIsle harbours(String kinds, int goods) {
        HexhavenIsle x = Due.full(12);
        Stages.richLands(x);
        x.harbour(1, 1, 0, kinds.charAt(0));
        x.harbour(1, 1, 5, kinds.charAt(1));
        Stages.grow(x, 10, 8);
        Stages.hand(x, goods);
        return x;
    }

    private static void bank() {
        for (char give : GOODS.toCharArray()) {
            char take = third(give, give);
            char other = third(give, take);
            trade("--", give, take, 4);
            trade("?-", give, take, 3);
            trade("-?", give, take, 3);
            trade("??", give, take, 3);
            trade(give + "-", give, take, 2);
            trade("-" + give, give, take, 2);
            trade("?" + give, give, take, 2);
            trade(give + "?", give, take, 2);
            // the harbour of what is taken, or of another good, is of no use
            trade("-" + take, give, take, 4);
            trade(other + "-", give, take, 4);
            trade(other + "?", give, take, 3);
        }
    }

    private static void trade(String harbours, char give, char take, int price) {
        HexhavenIsle x = harbours(harbours, price * one(give));
        int left = x.left(take);
        int given = x.left(give);
        Due.due(price, () -> x.rate(0, give));
        Due.due(price, () -> x.bank(give, take));
        Due.due(one(take), () -> Stages.held(x, 0));
        Due.due(left - 1, () -> x.left(take));
        Due.due(given + price, () -> x.left(give));
        Twin.refused(() -> harbours(harbours, (price - 1) * one(give) + 2 * one(take)), Due.NOT_SO,
                y -> y.bank(give, take));
    }

    /** The bank has one grain and one ore at last: who takes it leaves none, and none is given then. */
    private static void bankHasOne() {
        for (char take : "go".toCharArray()) {
            for (char give : "wbs".toCharArray()) {
                Supplier<HexhavenIsle> none = () -> {
                    HexhavenIsle x = Stages.rich(10, 8);
                    Stages.hand(x, 9 * one(give));
                    Due.due(1, () -> x.left(take));
                    Due.due(4, () -> x.bank(give, take));
                    Due.due(0, () -> x.left(take));
                    return x;
                };
                Twin.refused(none, Due.NOT_SO, x -> x.bank(give, take));
                HexhavenIsle y = none.get();
                Due.due(4, () -> y.bank(give, take == 'g' ? 'o' : 'g'));
            }
        }
    }

    /** The player 0 in actions with these goods, the player 1 with all others. */
    private static HexhavenIsle acting(int goods) {
        HexhavenIsle x = Stages.rich(10, 6);
        Stages.hand(x, goods);
        return x;
    }

    private static void offer() {
        for (char good : GOODS.toCharArray()) {
            int one = one(good);
            int want = one(third(good, good));
            for (int count = 1; count <= 9; count++) {
                int n = count;
                HexhavenIsle x = acting(n * one);
                Due.due(false, () -> x.offer(n * one, want));
                Due.due(true, () -> x.offer(n * one, 9 * want));
                Due.due(true, () -> x.offer(one, 9 * want));
                for (int more = n + 1; more <= 9; more++) {
                    int m = more;
                    Due.due(Due.NOT_SO, () -> x.offer(m * one, want));
                }
            }
            Twin.refused(() -> acting(3 * one + 2 * want), Due.NOT_SO, x -> x.offer(4 * one, 1 * want),
                    x -> x.offer(9 * one, 9 * want));
        }
        // every digit has to be there; the offer that was there stays
        Supplier<HexhavenIsle> make = () -> {
            HexhavenIsle x = acting(32145);
            x.offer(22100, 11);
            return x;
        };
        Due.due(true, () -> make.get().offer(32140, 9));
        Due.due(true, () -> make.get().offer(2145, 90000));
        Twin.refused(make, Due.NOT_SO, x -> x.offer(42140, 9), x -> x.offer(33140, 9), x -> x.offer(32240, 9),
                x -> x.offer(32150, 9), x -> x.offer(2146, 10000));
    }

    private static void take() {
        for (char give : GOODS.toCharArray()) {
            for (char want : GOODS.toCharArray()) {
                if (give != want) {
                    take(give, want);
                }
            }
        }
        HexhavenIsle x = acting(54321);
        int others = x.goods(1);
        Due.due(false, () -> x.offer(54000, 321));
        Due.due(others + 9 - 6, () -> x.take(1));
        Due.due(642, () -> Stages.held(x, 0));
        Due.due(true, x::isTrue);
    }

    /** The player 0 has 4 of what is given, and of what is wanted all but so many that the other one has. */
    private static void take(char give, char want) {
        int own = 4 * one(give) + 9 * one(want);
        int has = acting(own).has(1, want);
        Due.due(true, () -> has >= 3 && has <= 5);
        HexhavenIsle x = acting(own);
        int others = x.goods(1);
        x.offer(4 * one(give), has * one(want));
        Due.due(others + 4 - has, () -> x.take(1));
        Due.due(0, () -> x.has(0, give));
        Due.due(0, () -> x.has(1, want));
        Due.due(true, x::isTrue);
        // the taker has one too few
        Twin.refused(() -> {
            HexhavenIsle y = acting(own);
            y.offer(one(give), (has + 1) * one(want));
            return y;
        }, Due.NOT_SO, y -> y.take(1), y -> y.take(0));
        // who offers has none of it any more: the bank has it
        Twin.refused(() -> {
            HexhavenIsle y = acting(own);
            y.offer(one(give), one(want));
            y.bank(give, third(give, want));
            return y;
        }, Due.NOT_SO, y -> y.take(1), y -> y.take(0));
    }

    private static void takeOfNone() {
        // in a turn with none, behind one that was taken, and behind the turn of one
        Twin.refused(() -> acting(22222), Due.MISSING, x -> x.take(0), x -> x.take(1));
        Twin.refused(() -> {
            HexhavenIsle x = acting(22222);
            x.offer(10000, 1);
            x.take(1);
            return x;
        }, Due.MISSING, x -> x.take(1), x -> x.take(0));
        Twin.refused(() -> {
            HexhavenIsle x = acting(22222);
            x.offer(10000, 1);
            x.end();
            Due.roll(x, 3);
            return x;
        }, Due.MISSING, x -> x.take(0), x -> x.take(1));
        Twin.refused(() -> {
            HexhavenIsle x = acting(22222);
            x.offer(10000, 1);
            x.end();
            Due.pass(x, 3);
            Due.roll(x, 3);
            return x;
        }, Due.MISSING, x -> x.take(0), x -> x.take(1));
        // an offer that was refused is none
        Twin.refused(() -> {
            HexhavenIsle x = acting(22222);
            Due.due(Due.NOT_SO, () -> x.offer(30000, 1));
            return x;
        }, Due.MISSING, x -> x.take(1));
    }

    // ---- cards

    /** The player 0 in actions, with goods for three cards, and so many in the pile. */
    private static HexhavenIsle pile(int left) {
        HexhavenIsle x = Stages.rich(10, 8);
        x.seed(77);
        for (int count = 24; count >= left; count--) {
            int due = count;
            if (x.has(0, 's') == 0 || x.has(0, 'g') == 0 || x.has(0, 'o') == 0) {
                // what the cards have cost comes back by a 6
                x.end();
                Due.pass(x, 6);
                Due.roll(x, 6);
                Stages.hand(x, 10333);
            }
            Due.due(due, x::buy);
        }
        Stages.hand(x, 333);
        return x;
    }

    private static void buy() {
        Due.due(1, () -> pile(2).buy());
        Due.due(0, () -> pile(1).buy());
        Twin.refused(() -> pile(0), Due.NOT_SO, HexhavenIsle::buy);
    }

    /** The player 0 buys these cards, and then, or two turns later, these others. */
    private static HexhavenIsle cards(String older, String newer) {
        HexhavenIsle x = Stages.rich(10, 8);
        StringBuilder pile = new StringBuilder(PILE);
        buy(x, pile, older);
        x.end();
        Due.pass(x, 3);
        Due.roll(x, 3);
        buy(x, pile, newer);
        Stages.hand(x, 55555);
        return x;
    }

    private static void buy(HexhavenIsle x, StringBuilder pile, String kinds) {
        for (char kind : kinds.toCharArray()) {
            int has = x.cards(0, kind);
            int place = pile.indexOf("" + kind);
            Stages.hand(x, 44444);
            TurnTest.buyAt(x, pile.length(), place);
            pile.deleteCharAt(place);
            Due.due(has + 1, () -> x.cards(0, kind));
        }
    }

    private static int due(char kind) {
        return kind == 'k' ? 1 : kind == 'p' ? 27 : kind == 'r' ? 25 : -1;
    }

    private static void play() {
        String kinds = "kmpr";
        for (char kind : kinds.toCharArray()) {
            String others = kinds.replace("" + kind, "");
            Twin.refused(() -> cards("", ""), Due.NOT_SO, x -> x.play(kind, 'w', 'w'));
            Twin.refused(() -> cards(others, ""), Due.NOT_SO, x -> x.play(kind, 'w', 'w'));
            Twin.refused(() -> cards("v", "" + kind), Due.NOT_SO, x -> x.play(kind, 'w', 'w'));
            Twin.refused(() -> cards(others.substring(1), "" + kind), Due.NOT_SO, x -> x.play(kind, 'w', 'w'));
            played(cards("" + kind, ""), kind);
            played(cards("" + kind, others), kind);
            // one that was bought now is no matter to an older one
            played(cards("" + kind, "" + kind), kind);
            Due.due(1, () -> {
                HexhavenIsle x = cards("" + kind, "" + kind);
                x.play(kind, 'w', 'w');
                return x.cards(0, kind);
            });
        }
    }

    private static void played(HexhavenIsle x, char kind) {
        int has = x.cards(0, kind);
        int all = 25 + x.has(1, 'o');
        Due.due(kind == 'm' ? all : due(kind), () -> x.play(kind, 'o', 'w'));
        Due.due(has - 1, () -> x.cards(0, kind));
        Due.due(kind == 'k' ? 't' : 'a', x::phase);
        Due.due(true, x::isTrue);
    }

    private static void playOneInATurn() {
        String kinds = "kmpr";
        for (char kind : kinds.toCharArray()) {
            Supplier<HexhavenIsle> make = () -> {
                HexhavenIsle x = cards("kmpr" + kind, "");
                played(x, kind);
                if (kind == 'k') {
                    x.thief(4, 4, -1);
                }
                return x;
            };
            Twin.refused(make, Due.NOT_SO, x -> x.play('k', 'w', 'w'), x -> x.play('m', 'w', 'w'),
                    x -> x.play('p', 'w', 'w'), x -> x.play('r', 'w', 'w'));
            for (char next : kinds.toCharArray()) {
                HexhavenIsle x = make.get();
                x.end();
                // the other one has no card, and has played none
                Due.roll(x, 3);
                Due.due(Due.NOT_SO, () -> x.play(next, 'w', 'w'));
                x.end();
                Due.roll(x, 3);
                Due.due(true, () -> x.play(next, 'w', 'w') >= 1);
            }
        }
        // each player has one in a turn
        HexhavenIsle x = cards("r", "");
        x.end();
        Due.roll(x, 3);
        Stages.hand(x, 333);
        TurnTest.buyAt(x, 24, 0);
        x.end();
        Due.roll(x, 3);
        Due.due(true, () -> x.play('r', 'w', 'w') == x.goods(0));
        x.end();
        Due.roll(x, 3);
        Due.due(1, () -> x.play('k', 'w', 'w'));
    }

    // ---- advice, and points of nobody

    private static void advise() {
        Twin.Call[] all = {x -> x.advise('p'), x -> x.advise('v'), x -> x.advise('n')};
        // own roads end next to houses alone
        Twin.refused(() -> Stages.rich(10, 2), Due.MISSING, all);
        // three lands in a row: the last corner, and none
        Twin.refused(() -> threeLands(7), Due.MISSING, all);
        HexhavenIsle x = threeLands(6);
        for (Twin.Call call : all) {
            Due.due(203, () -> call.on(x));
        }
    }

    private static HexhavenIsle threeLands(int houses) {
        HexhavenIsle x = new HexhavenIsle();
        x.land(0, 0, 'w', 6);
        x.land(1, 0, 'b', 6);
        x.land(2, 0, 's', 6);
        x.begin(4, 3);
        int[][] corners = {{0, 0, 1}, {0, 0, 3}, {0, 0, 5}, {1, 0, 1}, {1, 0, 3}, {2, 0, 1}, {2, 0, 3}};
        for (int i = 0; i < houses; i++) {
            Due.put(x, corners[i][0], corners[i][1], corners[i][2]);
        }
        return x;
    }

    private static void meanPoints() {
        Twin.refused(HexhavenIsle::new, ArithmeticException.class, HexhavenIsle::meanPoints);
        Twin.refused(Stages::island, ArithmeticException.class, HexhavenIsle::meanPoints);
        HexhavenIsle x = Stages.island();
        x.begin(2, 3);
        Due.due(0.0, x::meanPoints);
    }
}
