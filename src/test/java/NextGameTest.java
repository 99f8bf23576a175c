import java.util.function.Supplier;

/** Behind a game that is over the next one is as one on a new object, but for z and the ratings. */
public final class NextGameTest {
    private static final String[] KINDS_OF_END = {"a card of points", "knights", "the way"};

    public static void main(String[] args) {
        for (int end = 0; end < KINDS_OF_END.length; end++) {
            for (int players = 2; players <= 4; players++) {
                likeANewOne(end, players);
            }
        }
        titlesBeginAnew();
        Due.finish();
    }

    private static HexhavenIsle over(int end) {
        HexhavenIsle x = end == 0 ? byPoints() : end == 1 ? byKnights() : byTheWay();
        Due.due('o', x::phase);
        Due.due(0, x::turn);
        Due.due(true, x::isTrue);
        return x;
    }

    /** Much is left over: an offer, a town, cards, new and old ones, and goods. */
    private static HexhavenIsle byPoints() {
        HexhavenIsle x = Stages.rich(4, 8);
        x.end();
        Due.roll(x, 3);
        TurnTest.buyAt(x, 25, 20);
        TurnTest.buyAt(x, 24, 0);
        x.end();
        Due.roll(x, 3);
        Stages.hand(x, 55555);
        Due.due(3, () -> x.town(1, 1, 0));
        x.offer(10000, 1);
        TurnTest.buyAt(x, 23, 22);
        TurnTest.buyAt(x, 22, 13);
        return x;
    }

    /** The thief is still to be moved as the third knight wins. */
    private static HexhavenIsle byKnights() {
        HexhavenIsle x = Stages.rich(4, 8);
        Stages.hand(x, 333);
        for (int i = 0; i < 3; i++) {
            TurnTest.buyAt(x, 25 - i, 0);
        }
        for (int i = 1; i <= 3; i++) {
            int count = i;
            x.end();
            Due.pass(x, 3);
            Due.roll(x, 3);
            Due.due(count, () -> x.play('k', 'w', 'w'));
            if (count < 3) {
                x.thief(count % 2 * 4, count % 2 * 4, -1);
            }
        }
        return x;
    }

    /** One of two free roads is left over. */
    private static HexhavenIsle byTheWay() {
        HexhavenIsle x = Stages.rich(4, 8);
        for (int side = 1; side <= 3; side++) {
            x.road(1, 1, side);
        }
        TurnTest.buyAt(x, 25, 23);
        x.end();
        Due.pass(x, 3);
        Due.roll(x, 3);
        x.play('r', 'w', 'w');
        x.road(1, 1, 4);
        return x;
    }

    private static HexhavenIsle fresh() {
        HexhavenIsle x = Due.full(12);
        Stages.richLands(x);
        return x;
    }

    private static void likeANewOne(int end, int players) {
        HexhavenIsle old = over(end);
        HexhavenIsle young = fresh();
        Supplier<Object> begun = () -> young.begin(players, 10);
        Due.due(begun.get(), () -> old.begin(players, 10));
        young.seed(2718281);
        old.seed(2718281);
        Due.due(Twin.toldOfGame(young), () -> Twin.toldOfGame(old));
        Due.due(Twin.playOn(young), () -> Twin.playOn(old));
    }

    /** Ways, knights and titles of the game ahead count no more. */
    private static void titlesBeginAnew() {
        for (int end = 0; end < KINDS_OF_END.length; end++) {
            HexhavenIsle x = over(end);
            Due.due(end == 1 ? 0 : -1, () -> x.title('k'));
            Due.due(end == 2 ? 0 : -1, () -> x.title('w'));
            Stages.grow(x, 10, 8);
            Due.due(-1, () -> x.title('k'));
            Due.due(-1, () -> x.title('w'));
            Due.due(2, () -> x.points(0, false));
            Due.due(1, () -> x.way(0));
            Stages.hand(x, 22133);
            // the road is paid, and the offer is the first one
            Due.due(2, () -> x.road(1, 1, 1));
            Due.due(11133, () -> Stages.held(x, 0));
            Due.due(false, () -> x.offer(1, 10));
            for (int i = 0; i < 3; i++) {
                int left = 24 - i;
                Stages.hand(x, 11133);
                Due.pick(x, left + 1, 0);
                Due.due(left, x::buy);
            }
            for (int i = 1; i <= 3; i++) {
                int count = i;
                x.end();
                Due.pass(x, 3);
                Due.roll(x, 3);
                Due.due(count, () -> x.play('k', 'w', 'w'));
                x.thief(count % 2 * 4, count % 2 * 4, -1);
                Due.due(count < 3 ? -1 : 0, () -> x.title('k'));
            }
        }
    }
}
