/** Promises 1 to 9, 36 and 38: places, harbours, pips, the beginning, seeds, phases and turns. */
public final class IslandTest {
    public static void main(String[] args) {
        examples();
        newObject();
        lands();
        landsBehindAGame();
        harbours();
        pips();
        sharedCorners();
        touching();
        begin();
        thiefBegins();
        seed();
        phaseAndTurn();
        orderOfTheBeginning();
        secondHouseBringsGoods();
        beginningIsStuck();
        landShare();
        Due.finish();
    }

    private static void examples() {
        HexhavenIsle x = new HexhavenIsle();
        Due.due('-', () -> x.land(0, 0, 'w', 6));
        Due.due('-', () -> x.land(1, 0, 'b', 8));
        Due.due('-', () -> x.land(0, 1, 'd', 0));
        Due.due(10, () -> x.pips(0, 0, 1));
        Due.due(1, x::touching);
        Due.due(3, () -> x.begin(2, 3));
        Due.due(1, x::thiefAt);
        Due.due(1, () -> x.advise('p'));
        Due.due(1, () -> x.house(0, 0, 0));
        Due.due(1, () -> x.road(0, 0, 0));
        Due.due('h', x::phase);
        Due.due(1, x::turn);
        HexhavenIsle y = new HexhavenIsle();
        Due.due('-', () -> y.land(2, 2, 'g', 5));
        Due.due('-', () -> y.land(3, 2, 'o', 9));
        Due.due(8, () -> y.pips(2, 2, 1));
        Due.due(8, () -> y.pips(2, 2, 2));
        Due.due(0.08f, y::landShare);
    }

    private static void newObject() {
        HexhavenIsle x = new HexhavenIsle();
        Due.due('-', x::phase);
        Due.due(0f, x::landShare);
        Due.due(0, x::touching);
        Due.due(true, x::isTrue);
        Due.due(-1, () -> x.title('w'));
        Due.due(-1, () -> x.title('k'));
        Due.due(-1, () -> x.at(4, 4, 5));
        Due.due(-1, () -> x.roadAt(4, 4, 5));
        Due.due('-', () -> x.land(4, 4, '-', 7));
        Due.due('-', () -> x.harbour(4, 4, 5, '-'));
        Due.due(19, () -> x.left('o'));
        Due.due(1500, () -> x.rating(3));
        Due.due(1, () -> x.seed(5));
        for (int i = -1; i < 4; i++) {
            int player = i;
            Due.due(Due.NO_INDEX, () -> x.goods(player));
            Due.due(Due.NO_INDEX, () -> x.mayHouse(player, 0, 0, 0));
            Due.due(Due.NO_INDEX, () -> x.mayRoad(player, 0, 0, 0));
            Due.due(Due.NO_INDEX, () -> x.lose(player, -1));
            Due.due(Due.NO_INDEX, () -> x.take(player));
            Due.due(Due.NO_INDEX, () -> x.rate(player, 'x'));
            Due.due(Due.NO_INDEX, () -> x.points(player, true));
            Due.due(Due.NO_INDEX, () -> x.way(player));
        }
        Due.due(Due.NOT_NOW, () -> x.house(0, 0, 0));
        Due.due(Due.NOT_NOW, () -> x.road(0, 0, 0));
        Due.due(Due.NOT_NOW, () -> x.thief(0, 0, -1));
        Due.due(Due.NOT_NOW, () -> x.advise('p'));
        Due.due(Due.NOT_NOW, x::roll);
    }

    private static void lands() {
        HexhavenIsle x = new HexhavenIsle();
        Due.due(Due.NO_INDEX, () -> x.land(-1, 0, 'x', 6));
        Due.due(Due.NO_INDEX, () -> x.land(5, 0, 'w', 6));
        Due.due(Due.NO_INDEX, () -> x.land(0, -1, 'w', 6));
        Due.due(Due.NO_INDEX, () -> x.land(0, 5, 'w', 6));
        Due.due(Due.NO_INDEX, () -> x.land(Integer.MAX_VALUE, Integer.MIN_VALUE, 'w', 6));
        for (char kind : "x?vkW\0".toCharArray()) {
            Due.due(Due.BAD, () -> x.land(0, 0, kind, 6));
        }
        for (int number : new int[] {Integer.MIN_VALUE, -6, 0, 1, 7, 13, Integer.MAX_VALUE}) {
            Due.due(Due.BAD, () -> x.land(0, 0, 'w', number));
        }
        Due.due('-', () -> x.land(0, 0, 'w', 2));
        Due.due('w', () -> x.land(0, 0, 'o', 12));
        Due.due('o', () -> x.land(0, 0, 'd', 7));
        Due.due('d', () -> x.land(0, 0, '-', -99));
        Due.due('-', () -> x.land(0, 0, 's', 3));
        Due.due('s', () -> x.land(0, 0, 'b', 3));
        Due.due('b', () -> x.land(0, 0, 'g', 3));
        Due.due('-', () -> x.land(4, 4, 'd', 3));
        HexhavenIsle y = Due.two(6, 3);
        Due.due(Due.NO_INDEX, () -> y.land(0, 5, 'x', 6));
        Due.due(Due.BAD, () -> y.land(0, 4, 'x', 6));
        Due.due(Due.NOT_NOW, () -> y.land(0, 4, '-', 6));
    }

    private static void landsBehindAGame() {
        HexhavenIsle x = Due.full(12);
        ScoreTest.quickWin(x, 0);
        Due.due('o', x::phase);
        Due.due('w', () -> x.land(0, 0, '-', 6));
        Due.due('-', () -> x.harbour(0, 0, 0, 'w'));
        Due.due(0, x::thiefAt);
        Due.due(24, () -> x.begin(2, 3));
        Due.due(10, x::thiefAt);
        Due.due(Due.NOT_NOW, () -> x.land(0, 0, '-', 6));
    }

    private static void harbours() {
        HexhavenIsle x = new HexhavenIsle();
        Due.due(Due.NO_INDEX, () -> x.harbour(0, 0, -1, 'x'));
        Due.due(Due.NO_INDEX, () -> x.harbour(0, 0, 6, 'w'));
        Due.due(Due.NO_INDEX, () -> x.harbour(0, 5, 0, 'w'));
        Due.due(Due.BAD, () -> x.harbour(0, 0, 0, 'd'));
        Due.due(Due.BAD, () -> x.harbour(0, 0, 0, 'k'));
        // every side is the same one from both places
        Due.due('-', () -> x.harbour(2, 2, 0, 'w'));
        Due.due('w', () -> x.harbour(2, 1, 3, '-'));
        Due.due('-', () -> x.harbour(2, 2, 1, 'w'));
        Due.due('w', () -> x.harbour(3, 2, 4, '?'));
        Due.due('?', () -> x.harbour(2, 2, 1, '-'));
        Due.due('-', () -> x.harbour(2, 2, 2, 'o'));
        Due.due('o', () -> x.harbour(2, 3, 5, 'g'));
        Due.due('-', () -> x.harbour(2, 2, 3, 'b'));
        Due.due('b', () -> x.harbour(1, 3, 0, 'b'));
        Due.due('-', () -> x.harbour(2, 3, 2, 's'));
        Due.due('s', () -> x.harbour(3, 4, 5, 's'));
        Due.due('-', () -> x.harbour(2, 3, 3, 's'));
        Due.due('s', () -> x.harbour(2, 4, 0, 's'));
        Due.due('-', () -> x.harbour(0, 0, 0, 'b'));
        Due.due('b', () -> x.harbour(0, 0, 0, 'b'));
        HexhavenIsle y = Due.two(6, 3);
        Due.due(Due.NO_INDEX, () -> y.harbour(0, 0, 6, 'd'));
        Due.due(Due.BAD, () -> y.harbour(0, 0, 0, 'd'));
        Due.due(Due.NOT_NOW, () -> y.harbour(0, 0, 0, 'w'));
    }

    private static void pips() {
        HexhavenIsle x = new HexhavenIsle();
        for (int i = 2; i <= 12; i++) {
            int number = i;
            if (number != 7) {
                x.land(2, 1, 'w', number);
                Due.due(number < 7 ? number - 1 : 13 - number, () -> x.pips(2, 1, 4));
            }
        }
        x.land(3, 1, 'b', 6);
        x.land(3, 0, 'd', 6);
        Due.due(6, () -> x.pips(2, 1, 1));
        Due.due(6, () -> x.pips(3, 1, 5));
        Due.due(6, () -> x.pips(3, 0, 3));
        Due.due(6, () -> x.pips(2, 1, 2));
        Due.due(6, () -> x.pips(3, 2, 0));
        Due.due(1, () -> x.pips(2, 1, 0));
        Due.due(0, () -> x.pips(0, 4, 3));
        x.land(2, 1, '-', 6);
        Due.due(5, () -> x.pips(2, 1, 1));
        x.land(3, 1, 'd', 6);
        Due.due(0, () -> x.pips(2, 1, 1));
        Due.due(Due.NO_INDEX, () -> x.pips(0, 0, -1));
        Due.due(Due.NO_INDEX, () -> x.pips(0, 0, 6));
        Due.due(Due.NO_INDEX, () -> x.pips(5, 0, 0));
        Due.due(Due.NO_INDEX, () -> x.pips(0, -1, 0));
    }

    /** One land alone: which corners of places round it are its own ones, in an even row and in an odd one. */
    private static void sharedCorners() {
        int[][] even = {{2, 2}, {2, 1}, {3, 2}, {2, 3}, {1, 3}, {1, 2}, {1, 1}};
        int[][] odd = {{2, 1}, {3, 0}, {3, 1}, {3, 2}, {2, 2}, {1, 1}, {2, 0}};
        int[][] touched = {{0, 1, 2, 3, 4, 5}, {3, 4}, {4, 5}, {5, 0}, {0, 1}, {1, 2}, {2, 3}};
        for (int[][] round : new int[][][] {even, odd}) {
            HexhavenIsle x = new HexhavenIsle();
            x.land(round[0][0], round[0][1], 'w', 6);
            int sum = 0;
            for (int i = 0; i < 7; i++) {
                for (int corner : touched[i]) {
                    int[] place = round[i];
                    Due.due(5, () -> x.pips(place[0], place[1], corner));
                    sum += 5;
                }
            }
            int whole = 0;
            for (int i = 0; i < 150; i++) {
                whole += x.pips(i % 5, i / 5 % 5, i / 25);
            }
            int all = whole;
            Due.due(sum, () -> all);
        }
    }

    private static void touching() {
        // 4 pairs in each of 5 rows, 9 between two rows
        Due.due(56, () -> Due.full(6).touching());
        Due.due(56, () -> Due.full(8).touching());
        Due.due(0, () -> Due.full(9).touching());
        HexhavenIsle x = new HexhavenIsle();
        x.land(1, 1, 'w', 6);
        x.land(2, 1, 'w', 5);
        Due.due(0, x::touching);
        x.land(2, 0, 'w', 8);
        Due.due(1, x::touching);
        x.land(1, 0, 'w', 8);
        Due.due(3, x::touching);
        x.land(1, 2, 'd', 8);
        Due.due(3, x::touching);
        x.land(2, 2, 'o', 6);
        Due.due(4, x::touching);
        x.land(1, 1, 'd', 6);
        Due.due(1, x::touching);
    }

    private static void begin() {
        HexhavenIsle x = new HexhavenIsle();
        Due.due(Due.NOT_SO, () -> x.begin(2, 3));
        x.land(0, 0, 'd', 0);
        x.land(1, 0, 'd', 0);
        Due.due(Due.NOT_SO, () -> x.begin(4, 10));
        Due.due(Due.BAD, () -> x.begin(1, 3));
        Due.due(Due.BAD, () -> x.begin(5, 3));
        Due.due(Due.BAD, () -> x.begin(2, 2));
        Due.due(Due.BAD, () -> x.begin(2, 11));
        Due.due('-', x::phase);
        x.land(2, 0, 'w', 4);
        Due.due(3, () -> x.begin(4, 10));
        Due.due('h', x::phase);
        Due.due(Due.BAD, () -> x.begin(4, 11));
        Due.due(Due.NOT_NOW, () -> x.begin(4, 10));
        Due.due(0, () -> x.goods(3));
        Due.due(Due.NO_INDEX, () -> x.goods(4));
        HexhavenIsle y = new HexhavenIsle();
        for (int i = 0; i < 25; i++) {
            y.land(i % 5, i / 5, 'd', 0);
        }
        Due.due(25, () -> y.begin(2, 3));
        Due.due(Due.NO_INDEX, () -> y.goods(2));
    }

    private static void thiefBegins() {
        HexhavenIsle x = new HexhavenIsle();
        Due.due(Due.NOT_NOW, x::thiefAt);
        x.land(3, 1, 'w', 4);
        x.land(1, 2, 'b', 4);
        x.land(0, 4, 's', 4);
        x.begin(2, 3);
        Due.due(31, x::thiefAt);
        HexhavenIsle y = new HexhavenIsle();
        y.land(0, 0, 'w', 4);
        y.land(4, 2, 'd', 4);
        y.land(2, 3, 'd', 4);
        y.land(1, 3, 'd', 4);
        y.begin(2, 3);
        Due.due(42, y::thiefAt);
    }

    private static void seed() {
        HexhavenIsle x = Due.two(6, 10);
        Due.due(Due.BAD, () -> x.seed(0));
        Due.due(Due.BAD, () -> x.seed(-1));
        Due.due(Due.BAD, () -> x.seed(2147483647));
        Due.due(Due.BAD, () -> x.seed(Integer.MIN_VALUE));
        Due.due(1, () -> x.seed(2147483646));
        Due.due(2147483646, () -> x.seed(1));
        // z becomes 48271, then 182605794: 1 and 0 modulo 6
        Due.due(3, x::roll);
        Due.due(182605794, () -> x.seed(1));
    }

    private static void phaseAndTurn() {
        HexhavenIsle x = Due.full(6);
        Due.due(Due.NOT_NOW, x::turn);
        Due.due('-', x::phase);
        x.begin(3, 10);
        Due.due('h', x::phase);
        Due.due(0, x::turn);
        x.house(2, 2, 0);
        Due.due('w', x::phase);
        Due.due(0, x::turn);
        x.road(2, 2, 0);
        Due.due('h', x::phase);
        Due.due(1, x::turn);
        HexhavenIsle y = Due.two(6, 10);
        Due.due('r', y::phase);
        Due.due(0, y::turn);
        Due.roll(y, 5);
        Due.due('a', y::phase);
        y.end();
        Due.roll(y, 7);
        Due.due('t', y::phase);
        Due.due(1, y::turn);
    }

    private static void orderOfTheBeginning() {
        HexhavenIsle x = Due.full(6);
        x.begin(3, 10);
        int[] order = {0, 1, 2, 2, 1, 0};
        for (int i = 0; i < 6; i++) {
            int player = order[i];
            int column = i % 3 * 2;
            int row = i < 3 ? 1 : 3;
            int houses = i < 3 ? 1 : 2;
            Due.due(player, x::turn);
            Due.due(Due.NOT_NOW, () -> x.road(column, row, 0));
            Due.due(Due.NOT_NOW, x::roll);
            Due.due(Due.NOT_NOW, x::end);
            Due.due(houses, () -> x.house(column, row, 0));
            Due.due(Due.NOT_NOW, () -> x.house(4, 4, 3));
            Due.refused(x, 3, Due.NOT_SO, () -> x.road(column, row, 2));
            Due.due(1, () -> x.road(column, row, 0));
        }
        Due.due('r', x::phase);
        Due.due(0, x::turn);
    }

    private static void secondHouseBringsGoods() {
        HexhavenIsle x = Due.full(6);
        x.land(3, 3, 'd', 0);
        x.land(4, 4, 'w', 6);
        x.begin(2, 10);
        Due.put(x, 2, 2, 0);
        Due.due(0, () -> x.goods(0));
        Due.put(x, 4, 2, 0);
        // round (3, 3, 0) are the desert, grain and sheep
        x.house(3, 3, 0);
        Due.due("0 0 1 1 0", () -> Due.all(x, 1));
        Due.due(18, () -> x.left('s'));
        // a road of the second pair begins at the second house alone
        Due.due(Due.NOT_SO, () -> x.road(4, 2, 5));
        Due.due(true, () -> x.mayRoad(1, 4, 2, 5));
        x.road(3, 3, 0);
        Due.due(Due.NO_INDEX, () -> x.house(0, 0, 7));
        x.house(0, 4, 3);
        Due.due("0 0 0 1 0", () -> Due.all(x, 0));
        HexhavenIsle y = Due.full(6);
        y.begin(2, 10);
        Due.put(y, 2, 2, 0);
        Due.put(y, 4, 4, 0);
        // the land of the thief brings a good here, too
        Due.due(0, y::thiefAt);
        Due.due(2, () -> y.house(0, 0, 0));
        Due.due("1 0 0 0 0", () -> Due.all(y, 1));
    }

    private static void beginningIsStuck() {
        HexhavenIsle x = new HexhavenIsle();
        x.land(0, 0, 'w', 6);
        x.land(1, 0, 'b', 6);
        x.land(2, 0, 's', 6);
        x.begin(4, 3);
        // every second corner of three lands in a row
        int[][] corners = {{0, 0, 1}, {0, 0, 3}, {0, 0, 5}, {1, 0, 1}, {1, 0, 3}, {2, 0, 1}, {2, 0, 3}};
        for (int[] c : corners) {
            Due.put(x, c[0], c[1], c[2]);
        }
        Due.due('h', x::phase);
        Due.due(0, x::turn);
        for (int i = 0; i < 150; i++) {
            int k = i;
            Due.due(Due.NOT_SO, () -> x.house(k % 5, k / 5 % 5, k / 25));
        }
        Due.due(Due.MISSING, () -> x.advise('p'));
        Due.due(Due.NOT_NOW, () -> x.begin(2, 3));
        Due.due(Due.NOT_NOW, () -> x.land(0, 0, '-', 0));
        Due.due(Due.NOT_NOW, x::roll);
        Due.due('h', x::phase);
    }

    private static void landShare() {
        HexhavenIsle x = new HexhavenIsle();
        for (int i = 0; i < 25; i++) {
            x.land(i % 5, i / 5, i % 2 == 0 ? 'd' : 'o', 9);
            float share = (i + 1) / 25f;
            Due.due(share, x::landShare);
        }
        x.land(0, 0, '-', 9);
        Due.due(0.96f, x::landShare);
    }
}
