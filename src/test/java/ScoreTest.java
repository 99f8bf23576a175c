/** Promises 25, 37, 39, 40 and 41, how games are won, and a game behind another one. */
public final class ScoreTest {
    public static void main(String[] args) {
        points();
        winByACard();
        winByAHouse();
        winByATown();
        winByTheWay();
        winByKnights();
        winAsATurnBegins();
        ratings();
        ratingsOfFour();
        ratingsAtTheirEnds();
        means();
        checksums();
        secondGame();
        Due.finish();
    }

    /** On full(12): both second houses bring sheep, grain and ore, a card; that of points wins for 3. */
    static void quickWin(HexhavenIsle x, int winner) {
        x.begin(2, 3);
        Due.put(x, 0, 4, 3);
        Due.put(x, 4, 4, 3);
        Due.put(x, 3, 3, 0);
        Due.put(x, 2, 0, 2);
        if (winner == 1) {
            Due.pass(x, 3);
        }
        Due.roll(x, 3);
        Due.pick(x, 25, 14);
        x.buy();
    }

    /** Three players, the goal 5: 1 has the way of 6 roads, 2 one of 5 and a card of points, 0 may cut that of 1. */
    static HexhavenIsle threeWithWays() {
        HexhavenIsle x = Due.full(12);
        String[] lands = {"12w", "11b", "01s", "40g", "22w", "32b", "34w", "44b", "04s"};
        for (String land : lands) {
            x.land(land.charAt(0) - '0', land.charAt(1) - '0', land.charAt(2), 6);
        }
        x.land(4, 2, 'd', 0);
        x.harbour(0, 4, 3, 'b');
        x.begin(3, 5);
        Due.put(x, 1, 2, 0);
        x.house(0, 2, 4);
        x.road(0, 2, 3);
        x.house(0, 4, 4);
        x.road(0, 4, 3);
        Due.put(x, 3, 4, 2);
        Due.put(x, 2, 2, 2);
        Due.put(x, 4, 0, 0);
        Due.round(x, 6, 6);
        Due.roll(x, 3);
        x.road(1, 2, 1);
        x.end();
        Due.roll(x, 3);
        x.road(0, 2, 2);
        x.road(1, 2, 3);
        x.road(1, 2, 2);
        x.road(2, 2, 3);
        x.end();
        Due.roll(x, 3);
        x.road(0, 4, 2);
        x.road(1, 4, 3);
        x.road(1, 4, 2);
        x.road(2, 4, 3);
        x.end();
        return x;
    }

    private static void points() {
        HexhavenIsle x = TurnTest.cardIsle(10);
        Due.due(Due.NO_INDEX, () -> x.points(2, true));
        Due.due(Due.NO_INDEX, () -> x.points(-1, false));
        Due.due(2, () -> x.points(0, false));
        Due.roll(x, 6);
        TurnTest.buyAt(x, 25, 18);
        Due.due(2, () -> x.points(0, true));
        Due.due(3, () -> x.points(0, false));
        Due.due(2, () -> x.points(1, false));
    }

    private static void winByACard() {
        HexhavenIsle x = Due.full(12);
        quickWin(x, 1);
        Due.due('o', x::phase);
        Due.due(1, x::turn);
        Due.due(3, () -> x.points(1, false));
        Due.due(2, () -> x.points(1, true));
        Due.due(Due.NOT_NOW, x::roll);
        Due.due(Due.NOT_NOW, x::end);
        Due.due(Due.NOT_NOW, x::buy);
        Due.due(Due.NOT_NOW, () -> x.road(0, 4, 2));
        Due.due(Due.NOT_NOW, () -> x.thief(4, 4, -1));
        Due.due(Due.NOT_NOW, () -> x.offer(1, 10));
        Due.due(true, x::isTrue);
    }

    private static void winByAHouse() {
        HexhavenIsle x = Due.two(6, 3);
        Due.round(x, 2, 6);
        Due.roll(x, 3);
        x.road(1, 1, 1);
        Due.due('a', x::phase);
        Due.due(3, () -> x.house(1, 1, 2));
        Due.due('o', x::phase);
        Due.due(0, x::turn);
    }

    private static void winByATown() {
        HexhavenIsle x = Due.two(6, 3);
        Due.pass(x, 6);
        Due.roll(x, 6);
        Due.due(3, () -> x.town(3, 1, 0));
        Due.due('o', x::phase);
        Due.due(1, x::turn);
    }

    private static void winByTheWay() {
        HexhavenIsle x = Due.full(12);
        x.land(1, 1, 'w', 6);
        x.land(1, 0, 'b', 6);
        Due.beginTwo(x, 4);
        for (int side = 1; side < 4; side++) {
            Due.roll(x, 6);
            x.road(1, 1, side);
            x.end();
            Due.pass(x, 3);
        }
        Due.roll(x, 6);
        Due.due('a', x::phase);
        Due.due(5, () -> x.road(1, 1, 4));
        Due.due('o', x::phase);
        Due.due(4, () -> x.points(0, true));
    }

    private static void winByKnights() {
        HexhavenIsle x = TurnTest.cardIsle(4);
        for (int i = 0; i < 4; i++) {
            int count = i;
            Due.roll(x, 6);
            TurnTest.buyAt(x, 25 - i, 0);
            if (i > 0) {
                Due.due(count, () -> x.play('k', 'w', 'w'));
            }
            if (i > 0 && i < 3) {
                x.thief(i, 4, -1);
            }
            if (i < 3) {
                x.end();
                Due.pass(x, 3);
            }
        }
        // at once: the thief stays
        Due.due('o', x::phase);
        Due.due(24, x::thiefAt);
        Due.due(0, () -> x.title('k'));
        Due.due(Due.NOT_NOW, () -> x.thief(4, 4, -1));
        Due.due(1516, () -> x.rating(0));
    }

    private static void winAsATurnBegins() {
        HexhavenIsle x = threeWithWays();
        Due.pass(x, 6);
        Due.pass(x, 6);
        Due.roll(x, 3);
        // 4 bricks of 2 are grain and ore, with a sheep a card
        Due.due(2, () -> x.bank('b', 'g'));
        Due.due(2, () -> x.bank('b', 'o'));
        TurnTest.buyAt(x, 25, 14);
        Due.due(3, () -> x.points(2, false));
        x.end();
        Due.roll(x, 3);
        x.house(1, 2, 2);
        Due.due(2, () -> x.title('w'));
        Due.due(5, () -> x.points(2, false));
        // it is not the player's own turn
        Due.due('a', x::phase);
        Due.due(1, x::end);
        Due.due('r', x::phase);
        Due.roll(x, 3);
        Due.due(2, x::end);
        Due.due('o', x::phase);
        Due.due(2, x::turn);
        Due.due(1484, () -> x.rating(0));
        Due.due(1484, () -> x.rating(1));
        Due.due(1532, () -> x.rating(2));
        Due.due(1500, () -> x.rating(3));
        Due.due(true, x::isTrue);
    }

    private static void ratings() {
        HexhavenIsle x = Due.full(12);
        Due.due(Due.NO_INDEX, () -> x.rating(-1));
        Due.due(Due.NO_INDEX, () -> x.rating(4));
        int[] firsts = {1516, 1531, 1545, 1558};
        for (int due : firsts) {
            quickWin(x, 0);
            Due.due(due, () -> x.rating(0));
            Due.due(3000 - due, () -> x.rating(1));
        }
        // 116 below, a twenty-fifth of that cut is 4: 20
        quickWin(x, 1);
        Due.due(1538, () -> x.rating(0));
        Due.due(1462, () -> x.rating(1));
        Due.due(1500, () -> x.rating(2));
    }

    /** All of four players, with ratings as they are ahead of the end. */
    private static void ratingsOfFour() {
        HexhavenIsle x = Due.full(12);
        for (int game = 0; game < 3; game++) {
            int[] ahead = {x.rating(0), x.rating(1), x.rating(2), x.rating(3)};
            x.begin(4, 3);
            Due.put(x, 0, 4, 3);
            Due.put(x, 4, 4, 3);
            Due.put(x, 0, 2, 5);
            Due.put(x, 0, 0, 0);
            Due.put(x, 4, 1, 1);
            Due.put(x, 4, 0, 0);
            Due.put(x, 3, 3, 0);
            Due.put(x, 2, 0, 2);
            int winner = game == 1 ? 1 : 0;
            if (winner == 1) {
                Due.pass(x, 3);
            }
            Due.roll(x, 3);
            Due.pick(x, 25, 14);
            x.buy();
            Due.due('o', x::phase);
            int sum = 0;
            for (int i = 0; i < 4; i++) {
                int player = i;
                int given = 16 + (ahead[i] - ahead[winner]) / 25;
                if (i != winner) {
                    sum += given;
                    Due.due(ahead[i] - given, () -> x.rating(player));
                }
            }
            int won = ahead[winner] + sum;
            Due.due(won, () -> x.rating(winner));
        }
    }

    private static void ratingsAtTheirEnds() {
        HexhavenIsle x = Due.full(12);
        for (int game = 0; game < 80; game++) {
            int before = x.rating(0);
            int given = Math.max(1, 16 - (x.rating(0) - x.rating(1)) / 25);
            quickWin(x, 0);
            Due.due(before + given, () -> x.rating(0));
        }
        int before = x.rating(1);
        Due.due(true, () -> x.rating(0) - before > 400);
        quickWin(x, 1);
        Due.due(before + 31, () -> x.rating(1));
    }

    private static void means() {
        HexhavenIsle x = Due.full(12);
        Due.due(ArithmeticException.class, x::meanPoints);
        x.begin(3, 10);
        Due.due(0.0, x::meanPoints);
        x.house(2, 2, 0);
        Due.due(1.0 / 3.0, x::meanPoints);
        HexhavenIsle y = Due.full(12);
        quickWin(y, 0);
        Due.due(2.5, y::meanPoints);
    }

    private static void checksums() {
        HexhavenIsle x = new HexhavenIsle();
        Due.due((7L * 31 + 1) * 31 + '-', x::checksum);
        x.seed(2147483646);
        Due.due((7L * 31 + 2147483646) * 31 + '-', x::checksum);
        HexhavenIsle y = Due.full(12);
        quickWin(y, 0);
        int z = y.seed(1);
        y.seed(z);
        // 3 points and no goods with the player 0, 2 points, sheep, grain and ore with 1, and a road long ways
        long[] told = {3, 0, 0, 0, 0, 0, 1, 2, 0, 0, 1, 1, 1, 1, z, 'o'};
        long sum = 7;
        for (long one : told) {
            sum = 31 * sum + one;
        }
        long due = sum;
        Due.due(due, y::checksum);
    }

    private static void secondGame() {
        HexhavenIsle x = threeWithWays();
        Due.pass(x, 6);
        Due.pass(x, 6);
        Due.roll(x, 3);
        x.bank('b', 'g');
        x.bank('b', 'o');
        TurnTest.buyAt(x, 25, 14);
        x.end();
        Due.roll(x, 3);
        x.house(1, 2, 2);
        x.end();
        Due.roll(x, 3);
        x.offer(1000, 1);
        x.end();
        Due.due('o', x::phase);
        int z = x.seed(1);
        x.seed(z);
        Due.due(25, () -> x.begin(4, 10));
        Due.due(z, () -> x.seed(z));
        Due.due(-1, () -> x.title('w'));
        Due.due(0, () -> x.way(2));
        Due.due(0, () -> x.points(2, false));
        Due.due(0, () -> x.cards(2, 'v'));
        Due.due(0, () -> x.goods(3));
        Due.due(19, () -> x.left('b'));
        Due.due(-1, () -> x.at(1, 2, 2));
        Due.due(-1, () -> x.roadAt(1, 2, 1));
        Due.due(42, x::thiefAt);
        Due.due(1532, () -> x.rating(2));
        Due.due(true, x::isTrue);
    }
}
