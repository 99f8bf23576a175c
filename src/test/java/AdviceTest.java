import java.util.HashSet;
import java.util.Set;

/** Advice, and what worths are, held against the words of the document, on many islands from end to end. */
public final class AdviceTest {
    private static final String GOODS = "wbsgo";
    private static final int[] NUMBERS = {2, 3, 4, 5, 6, 8, 9, 10, 11, 12};

    private final HexhavenIsle x = new HexhavenIsle();
    private final char[] kinds = new char[25];
    private final int[] numbers = new int[25];
    private long z;

    private AdviceTest(int island) {
        z = 1000 + island;
        String choice = new String[] {"wbsgo-d", "wwwb-", "d-", "od", "wbsgo", "go---", "d"}[island % 7];
        for (int i = 0; i < 25; i++) {
            kinds[i] = i < 3 ? choice.charAt(0) : choice.charAt(next(choice.length()));
            numbers[i] = NUMBERS[next(1 + island % 10)];
            x.land(i % 5, i / 5, kinds[i], numbers[i]);
        }
    }

    public static void main(String[] args) {
        for (int island = 0; island < 84; island++) {
            new AdviceTest(island).play(2 + island % 3);
        }
        desertsAlone();
        unlikeGoods();
        goodsOfAllHouses();
        Due.finish();
    }

    private int next(int count) {
        z = Due.next(z);
        return (int) (z % count);
    }

    // ---- worths by the points of a plane

    private boolean isLand(int[] place) {
        return kinds[place[0] + 5 * place[1]] != '-';
    }

    /** The goods of lands round a point. */
    private Set<Character> goodsAt(int point) {
        Set<Character> goods = new HashSet<>();
        for (int[] place : PlainIsle.placesAtPoint(point)) {
            char kind = kinds[place[0] + 5 * place[1]];
            if (GOODS.indexOf(kind) >= 0) {
                goods.add(kind);
            }
        }
        return goods;
    }

    private int pips(int point) {
        int pips = 0;
        for (int[] place : PlainIsle.placesAtPoint(point)) {
            int i = place[0] + 5 * place[1];
            pips += GOODS.indexOf(kinds[i]) >= 0 ? 6 - Math.abs(numbers[i] - 7) : 0;
        }
        return pips;
    }

    private Set<Character> got(int player) {
        Set<Character> got = new HashSet<>();
        for (int i = 0; i < 150; i++) {
            int built = x.at(i / 6 % 5, i / 30, i % 6);
            if (built >= 0 && built % 10 == player) {
                got.addAll(goodsAt(PlainIsle.point(i / 6 % 5, i / 30, i % 6)));
            }
        }
        return got;
    }

    private int worth(char kind, int point, int player) {
        Set<Character> unlike = goodsAt(point);
        if (kind == 'n') {
            unlike.removeAll(got(player));
        }
        return pips(point) + (kind == 'p' ? 0 : 10 * unlike.size());
    }

    private boolean isOpen(int point) {
        return PlainIsle.placesAtPoint(point).stream().anyMatch(this::isLand) && MissingTest.isApart(x, point)
                && (x.phase() == 'h' || MissingTest.isRoadEnd(x, x.turn(), point));
    }

    /** By rows, in these by columns, in these by corners; the exception if there is none. */
    private Object due(char kind) {
        int most = -1;
        Object best = Due.MISSING;
        for (int i = 0; i < 150; i++) {
            int point = PlainIsle.point(i / 6 % 5, i / 30, i % 6);
            if (isOpen(point) && worth(kind, point, x.turn()) > most) {
                most = worth(kind, point, x.turn());
                best = i / 6 % 5 * 100 + i / 30 * 10 + i % 6;
            }
        }
        return best;
    }

    private void compare() {
        for (char kind : "pvn".toCharArray()) {
            Due.due(due(kind), () -> x.advise(kind));
        }
    }

    // ---- games

    private void play(int players) {
        x.begin(players, 10);
        for (int i = 0; i < 2 * players && x.phase() == 'h'; i++) {
            compare();
            house("pvn".charAt(next(3)));
            road();
        }
        for (int turn = 0; turn < 3 * players && x.phase() == 'r'; turn++) {
            Due.roll(x, NUMBERS[next(10)]);
            compare();
            trade();
            road();
            road();
            compare();
            if (next(2) == 0) {
                house("pvn".charAt(next(3)));
            }
            town();
            compare();
            x.end();
        }
    }

    private void house(char kind) {
        Object spot = Twin.answer(x, y -> y.advise(kind));
        if (spot instanceof Integer) {
            int at = (Integer) spot;
            Twin.answer(x, y -> y.house(at / 100, at / 10 % 10, at % 10));
        }
    }

    private void road() {
        int from = next(150);
        for (int i = 0; i < 150; i++) {
            int k = (from + i) % 150;
            if (!(Twin.answer(x, y -> y.road(k / 6 % 5, k / 30, k % 6)) instanceof Class)) {
                return;
            }
        }
    }

    private void town() {
        for (int i = 0; i < 150; i++) {
            int k = i;
            Twin.answer(x, y -> y.town(k / 6 % 5, k / 30, k % 6));
        }
    }

    private void trade() {
        for (int i = 0; i < 25; i++) {
            char give = GOODS.charAt(i / 5);
            char take = GOODS.charAt(i % 5);
            if (x.has(x.turn(), give) > 4 && x.has(x.turn(), take) == 0) {
                Twin.answer(x, y -> y.bank(give, take));
            }
        }
    }

    // ---- by hand

    /** Corners that are worth nothing are corners, too; the first one is told at a place of sea. */
    private static void desertsAlone() {
        HexhavenIsle y = new HexhavenIsle();
        for (int place : new int[] {12, 13, 14}) {
            y.land(place % 5, place / 5, 'd', 0);
        }
        y.begin(2, 3);
        for (char kind : "pvn".toCharArray()) {
            Due.due(112, () -> y.advise(kind));
        }
    }

    /** Each good is worth 10 once, a desert nothing; one that is got, by a house or by a town, is worth 10 for 'v'. */
    private static void unlikeGoods() {
        for (char good : GOODS.toCharArray()) {
            char other = good == 'w' ? 'b' : 'w';
            HexhavenIsle y = new HexhavenIsle();
            // 6 pips and 10, against 5 pips and 10
            y.land(0, 0, good, 6);
            y.land(1, 0, 'd', 6);
            y.land(3, 0, good, 6);
            y.land(4, 0, good, 2);
            // 2 pips and 20, at a corner that a place of sea ahead of both has, too
            y.land(0, 4, good, 2);
            y.land(1, 4, other, 12);
            y.begin(2, 10);
            Due.due(301, () -> y.advise('p'));
            Due.due(33, () -> y.advise('v'));
            Due.due(33, () -> y.advise('n'));
            Due.put(y, 0, 4, 1);
            Due.put(y, 3, 0, 1);
            Due.put(y, 4, 0, 1);
            // both are got, so that the first corner with most pips is advised
            Due.due(0, () -> y.advise('n'));
        }
    }

    /** What any house or town gets is not worth 10 for 'n': of the first house, of the second one, of towns of both. */
    private static void goodsOfAllHouses() {
        for (int towns = 0; towns < 4; towns++) {
            for (boolean isSecond : new boolean[] {false, true}) {
                HexhavenIsle y = Due.full(12);
                Stages.richLands(y);
                // the corner 2 of (1, 1) has 6 pips, or 8, with wood alone, that of (1, 3) has 7 with grain alone
                y.land(2, 1, 'w', isSecond ? 4 : 12);
                y.land(2, 4, 'g', 12);
                Stages.grow(y, 10, 8);
                Stages.hand(y, 55544);
                y.road(1, 1, 1);
                y.road(1, 3, 1);
                for (int i = 0; i < 2; i++) {
                    int row = 1 + 2 * i;
                    if ((towns >> i & 1) == 1) {
                        Stages.hand(y, 10023);
                        Due.due(true, () -> y.town(1, row, 0) >= 3);
                    }
                }
                for (char kind : "pvn".toCharArray()) {
                    Due.due(isSecond ? 112 : 132, () -> y.advise(kind));
                }
            }
        }
    }
}
