/** The bank as it runs dry, harbours at all sides, and goods of hands in sum. */
public final class GoodsTest {
    private static final String GOODS = "wbsgo";

    public static void main(String[] args) {
        bankRunsDry();
        ratesAtAllSides();
        ratesAtSidesOfSea();
        sumsOfHands();
        Due.finish();
    }

    /** Those of four players whose bits are set get a wood each by every 6, the others get none. */
    private static HexhavenIsle woods(int getters) {
        HexhavenIsle x = new HexhavenIsle();
        for (int i = 0; i < 25; i++) {
            x.land(i % 5, i / 5, 'b', 12);
        }
        int[][] first = {{0, 0, 0}, {2, 0, 0}, {4, 0, 0}, {2, 2, 0}};
        int[][] second = {{3, 3, 0}, {2, 4, 3}, {4, 4, 3}, {0, 4, 3}};
        for (int i = 0; i < 4; i++) {
            x.land(first[i][0], first[i][1], (getters >> i & 1) == 1 ? 'w' : 's', 6);
        }
        x.land(4, 2, 'd', 0);
        x.begin(4, 10);
        for (int[] c : first) {
            Due.put(x, c[0], c[1], c[2]);
        }
        for (int[] c : second) {
            Due.put(x, c[0], c[1], c[2]);
        }
        return x;
    }

    /** As long as the bank has a wood for each one they get it, and then nobody does. */
    private static void bankRunsDry() {
        for (int getters = 1; getters < 16; getters++) {
            HexhavenIsle x = woods(getters);
            int left = 19;
            int got = 0;
            int count = Integer.bitCount(getters);
            for (int round = 0; round < 20 / count + 2; round++) {
                Due.pass(x, 6);
                if (left >= count) {
                    left -= count;
                    got++;
                }
                int dueOfBank = left;
                Due.due(dueOfBank, () -> x.left('w'));
                for (int i = 0; i < 4; i++) {
                    int player = i;
                    int due = (getters >> i & 1) * got;
                    Due.due(due, () -> x.has(player, 'w'));
                }
            }
            Due.due(19 % count, () -> x.left('w'));
            Due.due(true, x::isTrue);
        }
    }

    // ---- harbours

    private static void ratesAtAllSides() {
        for (int i = 0; i < 900; i++) {
            HexhavenIsle x = Due.full(12);
            rates(x, i / 6, i / 36 % 5, i / 36 / 5, i % 6, i % 2 == 0 ? '?' : GOODS.charAt(i % 5));
        }
    }

    /** A harbour at a side between places of sea, or off the island, is one for the houses at its corners, too. */
    private static void ratesAtSidesOfSea() {
        for (int i = 0; i < 900; i++) {
            HexhavenIsle x = new HexhavenIsle();
            x.land(2, 2, 'w', 12);
            x.land(0, 0, 'b', 12);
            x.land(4, 4, 's', 12);
            rates(x, i / 6, 2, 2, i % 6, i % 2 == 0 ? '?' : GOODS.charAt(i % 5));
        }
    }

    /** A harbour of that kind at the place and side of that number, and a house of the player 0 at the corner. */
    private static void rates(HexhavenIsle x, int side, int column, int row, int corner, char kind) {
        x.harbour(side / 6 % 5, side / 30, side % 6, kind);
        x.begin(2, 3);
        Due.due(1, () -> x.house(column, row, corner));
        boolean isAt = PlainIsle.pair(side / 6 % 5, side / 30, side % 6)
                .contains(PlainIsle.point(column, row, corner));
        for (char good : GOODS.toCharArray()) {
            int due = !isAt ? 4 : kind == good ? 2 : kind == '?' ? 3 : 4;
            Due.due(due, () -> x.rate(0, good));
            Due.due(4, () -> x.rate(1, good));
        }
    }

    // ---- hands

    /** Each good is counted once, and that of nobody else. */
    private static void sumsOfHands() {
        for (int players = 2; players <= 4; players++) {
            HexhavenIsle x = Due.full(6);
            x.land(4, 4, 'd', 0);
            x.begin(players, 10);
            int[][] corners = {{0, 1, 0}, {1, 1, 0}, {2, 1, 0}, {3, 1, 0}, {0, 3, 0}, {1, 3, 0}, {2, 3, 0}, {3, 3, 0}};
            for (int i = 0; i < 2 * players; i++) {
                Due.put(x, corners[i][0], corners[i][1], corners[i][2]);
            }
            for (int round = 0; round < 4; round++) {
                for (int i = 0; i < players; i++) {
                    int player = i;
                    int sum = 0;
                    for (char good : GOODS.toCharArray()) {
                        sum += x.has(i, good);
                    }
                    int due = sum;
                    Due.due(due, () -> x.goods(player));
                }
                Due.pass(x, 6);
            }
            for (char good : GOODS.toCharArray()) {
                int sum = x.left(good);
                for (int i = 0; i < players; i++) {
                    sum += x.has(i, good);
                }
                int due = sum;
                Due.due(19, () -> due);
            }
        }
    }
}
