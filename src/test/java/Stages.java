import java.util.LinkedHashMap;
import java.util.Map;
import java.util.function.Supplier;

/** Objects in each of the phases, with much in them that a refused call could spoil, and islands of plenty. */
final class Stages {
    private static final String GOODS = "wbsgo";

    private Stages() {
    }

    /** The phases are those that the first letters of the names tell. */
    static Map<String, Supplier<HexhavenIsle>> all() {
        Map<String, Supplier<HexhavenIsle>> all = new LinkedHashMap<>();
        all.put("- the sea alone", HexhavenIsle::new);
        all.put("- an island ahead of games", Stages::island);
        all.put("h the first house", () -> beginning(0));
        all.put("w the first road", () -> beginning(1));
        all.put("h the last house", () -> beginning(10));
        all.put("w the last road", () -> beginning(11));
        all.put("r the first roll", () -> beginning(12));
        all.put("r a later roll", Stages::rolling);
        all.put("l one has lost, another one is to lose", Stages::losing);
        all.put("t by a 7", Stages::seven);
        all.put("t by a knight", Stages::knight);
        all.put("a with an offer, a free road and a new card", Stages::acting);
        all.put("a with an older card", Stages::card);
        all.put("o a game is over", Stages::over);
        return all;
    }

    /** Lands of all numbers, harbours of all kinds, and a seed of its own. */
    static HexhavenIsle island() {
        int[] numbers = {6, 8, 2, 5, 9, 4, 10, 3, 11, 12};
        HexhavenIsle x = new HexhavenIsle();
        for (int i = 0; i < 24; i++) {
            x.land(i % 5, i / 5, "wbsgo".charAt((i % 5 + i / 5 * 2) % 5), numbers[i % 10]);
        }
        x.land(3, 3, 'd', 0);
        for (int i = 0; i < 6; i++) {
            x.harbour(i % 5, i / 5 * 4, i, "wbsgo?".charAt(i));
        }
        x.seed(987654321);
        return x;
    }

    /** Three players' beginning, of so many houses and roads in all. */
    private static HexhavenIsle beginning(int steps) {
        HexhavenIsle x = island();
        x.begin(3, 10);
        for (int i = 0; i < steps; i++) {
            int column = i / 2 % 3 * 2;
            int row = i < 6 ? 1 : 3;
            if (i % 2 == 0) {
                x.house(column, row, 0);
            } else {
                x.road(column, row, 0);
            }
        }
        return x;
    }

    /** A card that was bought in an earlier turn, and the dice are to be rolled. */
    private static HexhavenIsle rolling() {
        HexhavenIsle x = TurnTest.cardIsle(10);
        Due.roll(x, 6);
        TurnTest.buyAt(x, 25, 19);
        x.end();
        Due.pass(x, 6);
        x.seed(4711);
        return x;
    }

    private static HexhavenIsle losing() {
        HexhavenIsle x = rich(10);
        x.end();
        Due.roll(x, 7);
        x.lose(0, 54444);
        return x;
    }

    private static HexhavenIsle seven() {
        HexhavenIsle x = TurnTest.cardIsle(10);
        Due.pass(x, 6);
        Due.roll(x, 7);
        return x;
    }

    private static HexhavenIsle knight() {
        HexhavenIsle x = TurnTest.cardIsle(10);
        Due.roll(x, 6);
        TurnTest.buyAt(x, 25, 0);
        x.end();
        Due.pass(x, 6);
        Due.roll(x, 6);
        TurnTest.buyAt(x, 24, 0);
        x.offer(100, 1);
        x.play('k', 'w', 'w');
        return x;
    }

    private static HexhavenIsle acting() {
        HexhavenIsle x = TurnTest.cardIsle(10);
        Due.roll(x, 6);
        TurnTest.buyAt(x, 25, 24);
        x.end();
        Due.pass(x, 6);
        Due.roll(x, 6);
        TurnTest.buyAt(x, 24, 0);
        x.play('r', 'w', 'w');
        x.road(1, 1, 1);
        x.offer(10000, 1);
        x.seed(31);
        return x;
    }

    /** A monopoly that may be played. */
    static HexhavenIsle card() {
        HexhavenIsle x = rolling();
        Due.roll(x, 6);
        return x;
    }

    private static HexhavenIsle over() {
        HexhavenIsle x = Due.full(12);
        x.harbour(4, 4, 3, 'g');
        ScoreTest.quickWin(x, 1);
        return x;
    }

    /** Both players get one of each good by 6; the bank has 3 wood, brick and sheep, 1 grain and ore, at the end. */
    static HexhavenIsle rich(int goal) {
        return rich(goal, 8);
    }

    /**
     * The beginning of Due.beginTwo, so many turns in which a 6 brings one of each good to both players, and then
     * the turn of the player 0, or 1, in actions. Ahead of those, each has a grain and an ore.
     */
    static HexhavenIsle rich(int goal, int turns) {
        HexhavenIsle x = Due.full(12);
        richLands(x);
        return grow(x, goal, turns);
    }

    static void richLands(HexhavenIsle x) {
        String[] lands = {"11w", "10b", "20s", "13g", "12o", "31w", "30b", "40s", "33g", "32o"};
        for (String land : lands) {
            x.land(land.charAt(0) - '0', land.charAt(1) - '0', land.charAt(2), 6);
        }
        x.land(2, 2, 'd', 0);
        x.land(4, 2, 'd', 0);
    }

    static HexhavenIsle grow(HexhavenIsle x, int goal, int turns) {
        Due.beginTwo(x, goal);
        for (int i = 0; i < turns; i++) {
            Due.pass(x, 6);
        }
        Due.roll(x, 3);
        return x;
    }

    // ---- hands as they are wanted

    /** By offers that the other one of two players takes, whose turn it is gets just those goods, one at least. */
    static void hand(HexhavenIsle x, int wanted) {
        int player = x.turn();
        for (int round = 0; round < 20 && held(x, player) != wanted; round++) {
            int given = 0;
            int taken = 0;
            for (char good : GOODS.toCharArray()) {
                int more = digit(wanted, good) - x.has(player, good);
                given += more < 0 ? Math.min(9, -more) * one(good) : 0;
                taken += more > 0 ? more * one(good) : 0;
            }
            if (given > 0 && taken > 0) {
                exchange(x, given, taken);
            } else {
                unbalance(x, wanted);
            }
        }
        Due.due(wanted, () -> held(x, player));
    }

    /** Nothing is too much, or nothing is missing: of one good one too many is given for one too many of another. */
    private static void unbalance(HexhavenIsle x, int wanted) {
        int player = x.turn();
        for (int i = 0; i < 25; i++) {
            char give = GOODS.charAt(i / 5);
            char take = GOODS.charAt(i % 5);
            int given = Math.min(9, Math.max(1, x.has(player, give) - digit(wanted, give) + 1));
            int taken = Math.max(1, digit(wanted, take) - x.has(player, take) + 1);
            boolean isHad = x.has(player, give) >= given && x.has(1 - player, take) >= taken;
            if (give != take && isHad && taken <= 9) {
                exchange(x, given * one(give), taken * one(take));
                return;
            }
        }
    }

    private static void exchange(HexhavenIsle x, int give, int take) {
        x.offer(give, take);
        x.take(1 - x.turn());
    }

    /** The goods of a player as five digits, -1 if those do not tell them. */
    static int held(HexhavenIsle x, int player) {
        int told = 0;
        for (char good : GOODS.toCharArray()) {
            if (x.has(player, good) > 9) {
                return -1;
            }
            told += x.has(player, good) * one(good);
        }
        return told;
    }

    /** One of a good, as five digits. */
    static int one(char good) {
        int one = 1;
        for (int i = GOODS.indexOf(good); i < 4; i++) {
            one *= 10;
        }
        return one;
    }

    static int digit(int goods, char good) {
        return goods / one(good) % 10;
    }
}
