/** Promises 13 to 24 and 32 to 34: dice, losses, the thief, the bank, offers and cards. */
public final class TurnTest {
    public static void main(String[] args) {
        dice();
        yields();
        bankIsShortForAll();
        bankIsShortForOne();
        lose();
        loseNotAll();
        thief();
        thiefRobs();
        thiefAmongOthers();
        end();
        bank();
        bankHasNone();
        offer();
        take();
        offersEnd();
        buy();
        pileInOrder();
        pileRunsOut();
        knights();
        titleOfKnights();
        monopoly();
        plenty();
        freeRoads();
        freeRoadsEnd();
        playErrors();
        counts();
        rate();
        expects();
        Due.finish();
    }

    /** By 6 both players get a sheep, a grain and an ore each: those of a card. */
    static HexhavenIsle cardIsle(int goal) {
        HexhavenIsle x = Due.full(12);
        x.land(1, 1, 's', 6);
        x.land(1, 0, 'g', 6);
        x.land(2, 0, 'o', 6);
        x.land(3, 1, 's', 6);
        x.land(3, 0, 'g', 6);
        x.land(4, 0, 'o', 6);
        Due.beginTwo(x, goal);
        return x;
    }

    /** Buys the card at that place of the pile, of so many that are left. */
    static void buyAt(HexhavenIsle x, int count, int place) {
        Due.pick(x, count, place);
        Due.due(count - 1, x::buy);
    }

    private static void dice() {
        HexhavenIsle x = Due.two(12, 10);
        for (int z = 1; z < 40; z++) {
            long one = Due.next(z * 50000001L % 2147483647);
            long two = Due.next(one);
            int sum = (int) (one % 6 + two % 6 + 2);
            x.seed((int) (z * 50000001L % 2147483647));
            Due.due(sum, x::roll);
            if (sum == 7) {
                Due.due('t', x::phase);
                x.thief(x.thiefAt() == 44 ? 0 : 4, 4, -1);
            }
            Due.due('a', x::phase);
            Due.due(Due.NOT_NOW, x::roll);
            x.end();
            Due.due((int) two, () -> x.seed(1));
        }
        Due.due(Due.NOT_NOW, () -> new HexhavenIsle().roll());
    }

    private static void yields() {
        HexhavenIsle x = Due.two(6, 10);
        Due.roll(x, 6);
        Due.due("2 3 3 1 0", () -> Due.all(x, 0));
        Due.due("1 0 2 3 3", () -> Due.all(x, 1));
        x.end();
        Due.pass(x, 8);
        Due.due(9, () -> x.goods(0));
        HexhavenIsle y = Due.two(6, 10);
        Due.roll(y, 7);
        // the thief at grain of the player 0
        Due.due('-', () -> y.thief(1, 1, -1));
        y.end();
        Due.pass(y, 6);
        Due.due("2 3 3 0 0", () -> Due.all(y, 0));
        Due.roll(y, 7);
        y.lose(0, 1300);
        y.lose(1, 22);
        Due.due('-', () -> y.thief(4, 4, -1));
        y.end();
        Due.pass(y, 6);
        Due.due("3 4 2 1 0", () -> Due.all(y, 0));
        Due.due(true, y::isTrue);
    }

    private static void bankIsShortForAll() {
        HexhavenIsle x = Due.two(6, 10);
        // 3 sheep by each roll, to both: 17 are left for 5 rolls
        for (int i = 0; i < 5; i++) {
            Due.pass(x, 6);
        }
        Due.due(2, () -> x.left('s'));
        Due.due(11, () -> x.has(0, 's'));
        Due.roll(x, 6);
        Due.due(2, () -> x.left('s'));
        Due.due(11, () -> x.has(0, 's'));
        Due.due(6, () -> x.has(1, 's'));
        // others are given as ever
        Due.due(13, () -> x.has(0, 'b'));
        Due.due(true, x::isTrue);
    }

    private static void bankIsShortForOne() {
        HexhavenIsle x = Due.two(6, 10);
        Due.roll(x, 3);
        x.road(1, 1, 1);
        x.end();
        // 2 bricks by each roll, to the player 0 alone
        for (int i = 0; i < 9; i++) {
            Due.pass(x, 6);
        }
        Due.due(1, () -> x.left('b'));
        Due.pass(x, 6);
        Due.due(0, () -> x.left('b'));
        Due.due(19, () -> x.has(0, 'b'));
        Due.pass(x, 6);
        Due.due(19, () -> x.has(0, 'b'));
        Due.due(true, x::isTrue);
    }

    private static void lose() {
        HexhavenIsle x = Due.two(6, 10);
        Due.due(Due.NOT_NOW, () -> x.lose(0, 0));
        Due.round(x, 2, 6);
        Due.due("3 5 5 2 0", () -> Due.all(x, 0));
        Due.due("2 0 3 5 5", () -> Due.all(x, 1));
        Due.roll(x, 7);
        Due.due('l', x::phase);
        Due.due(Due.NO_INDEX, () -> x.lose(2, -1));
        Due.due(Due.NO_INDEX, () -> x.lose(-1, 0));
        Due.due(Due.BAD, () -> x.lose(0, -1));
        Due.due(Due.BAD, () -> x.lose(0, 100000));
        Due.due(Due.BAD, () -> x.lose(0, Integer.MIN_VALUE));
        // no half; more than there are; one too few, one too many
        Due.refused(x, 2, Due.NOT_SO, () -> x.lose(0, 0));
        Due.refused(x, 2, Due.NOT_SO, () -> x.lose(0, 43000));
        Due.refused(x, 2, Due.NOT_SO, () -> x.lose(0, 33000));
        Due.refused(x, 2, Due.NOT_SO, () -> x.lose(0, 35000));
        Due.due(1, () -> x.lose(0, 34000));
        Due.due("0 1 5 2 0", () -> Due.all(x, 0));
        Due.due('l', x::phase);
        Due.refused(x, 2, Due.NOT_SO, () -> x.lose(0, 400));
        Due.due(Due.NOT_NOW, () -> x.thief(2, 2, -1));
        Due.due(0, () -> x.lose(1, 10033));
        Due.due("1 0 3 2 2", () -> Due.all(x, 1));
        Due.due('t', x::phase);
        Due.due(true, x::isTrue);
        Due.due(Due.BAD, () -> x.lose(1, -1));
        Due.due(Due.NOT_NOW, () -> x.lose(1, 0));
        // in any order
        HexhavenIsle y = Due.two(6, 10);
        Due.round(y, 2, 6);
        Due.roll(y, 7);
        Due.due(1, () -> y.lose(1, 10033));
        Due.due('l', y::phase);
        Due.due(0, () -> y.lose(0, 34000));
        Due.due('t', y::phase);
    }

    private static void loseNotAll() {
        HexhavenIsle x = Due.two(6, 10);
        Due.roll(x, 6);
        Due.due(9, () -> x.goods(0));
        Due.due(2, () -> x.road(1, 1, 1));
        x.end();
        // 7 goods are kept, of 9 are lost 4
        Due.roll(x, 7);
        Due.due('l', x::phase);
        Due.refused(x, 2, Due.NOT_SO, () -> x.lose(0, 1110));
        Due.refused(x, 2, Due.NOT_SO, () -> x.lose(1, 10211));
        Due.due(0, () -> x.lose(1, 10021));
        Due.due('t', x::phase);
        HexhavenIsle y = Due.two(6, 10);
        Due.roll(y, 7);
        Due.due('t', y::phase);
    }

    private static void thief() {
        HexhavenIsle x = Due.two(6, 10);
        x.seed(77);
        Due.due(Due.NO_INDEX, () -> x.thief(5, 0, 9));
        Due.due(Due.NO_INDEX, () -> x.thief(0, 0, 2));
        Due.due(Due.NO_INDEX, () -> x.thief(0, 0, -2));
        Due.due(Due.NOT_NOW, () -> x.thief(4, 4, -1));
        Due.roll(x, 7);
        Due.due('t', x::phase);
        Due.refused(x, 2, Due.NOT_SO, () -> x.thief(0, 0, -1));
        Due.refused(x, 2, Due.NOT_SO, () -> x.thief(1, 1, 0));
        Due.refused(x, 2, Due.NOT_SO, () -> x.thief(1, 1, 1));
        Due.refused(x, 2, Due.NOT_SO, () -> x.thief(3, 1, -1));
        Due.due(Due.NOT_NOW, x::end);
        x.seed(5);
        Due.due('-', () -> x.thief(1, 1, -1));
        // nobody is robbed, so z is as it was
        Due.due(5, () -> x.seed(1));
        Due.due('a', x::phase);
        Due.due(11, x::thiefAt);
        HexhavenIsle y = Due.full(6);
        y.land(4, 4, '-', 0);
        y.land(0, 4, 'd', 0);
        y.land(1, 4, 'd', 0);
        Due.beginTwo(y, 10);
        Due.due(4, y::thiefAt);
        Due.roll(y, 7);
        Due.refused(y, 2, Due.NOT_SO, () -> y.thief(4, 4, -1));
        Due.refused(y, 2, Due.NOT_SO, () -> y.thief(0, 4, -1));
        Due.due('-', () -> y.thief(1, 4, -1));
        Due.due(14, y::thiefAt);
    }

    private static void thiefRobs() {
        String order = "sgo";
        for (int i = 0; i < 3; i++) {
            int place = i;
            HexhavenIsle x = Due.two(6, 10);
            Due.roll(x, 7);
            Due.pick(x, 3, place);
            int z = x.seed(1);
            x.seed(z);
            Due.due(order.charAt(place), () -> x.thief(3, 3, 1));
            Due.due((int) Due.next(z), () -> x.seed(1));
            Due.due(2, () -> x.goods(1));
            Due.due(4, () -> x.goods(0));
            Due.due(0, () -> x.has(1, order.charAt(place)));
            Due.due(true, x::isTrue);
        }
        // several of a good: two sheep lie behind one another
        for (int i = 0; i < 7; i++) {
            int place = i;
            HexhavenIsle x = Due.full(12);
            x.land(1, 1, 's', 6);
            x.land(1, 0, 's', 6);
            x.land(2, 0, 'g', 6);
            Due.beginTwo(x, 10);
            Due.pass(x, 6);
            Due.due("1 1 3 1 0", () -> Due.all(x, 0));
            Due.roll(x, 7);
            if (place < 6) {
                Due.pick(x, 6, place);
                Due.due("wbsssg".charAt(place), () -> x.thief(2, 2, 0));
            }
        }
    }

    private static void thiefAmongOthers() {
        HexhavenIsle x = Due.full(12);
        x.begin(3, 10);
        // all three are round (2, 2)
        Due.put(x, 2, 2, 0);
        Due.put(x, 2, 2, 2);
        Due.put(x, 2, 2, 4);
        Due.put(x, 0, 4, 3);
        Due.put(x, 4, 4, 3);
        Due.put(x, 0, 0, 5);
        Due.due(1, () -> x.goods(1));
        Due.due(1, () -> x.goods(2));
        Due.roll(x, 7);
        Due.refused(x, 3, Due.NOT_SO, () -> x.thief(2, 2, -1));
        Due.refused(x, 3, Due.NOT_SO, () -> x.thief(2, 2, 0));
        Due.refused(x, 3, Due.NOT_SO, () -> x.thief(4, 4, 2));
        Due.due('g', () -> x.thief(2, 2, 2));
        x.end();
        Due.roll(x, 7);
        // the player 2 has no good any more
        Due.refused(x, 3, Due.NOT_SO, () -> x.thief(0, 4, 2));
        Due.due('-', () -> x.thief(0, 4, -1));
        x.end();
        Due.roll(x, 7);
        Due.refused(x, 3, Due.NOT_SO, () -> x.thief(2, 2, 2));
        Due.due('s', () -> x.thief(2, 2, 1));
    }

    private static void end() {
        HexhavenIsle x = Due.two(12, 10);
        Due.due(Due.NOT_NOW, x::end);
        Due.roll(x, 3);
        Due.due(1, x::end);
        Due.due('r', x::phase);
        Due.due(Due.NOT_NOW, x::end);
        Due.roll(x, 3);
        Due.due(0, x::end);
        Due.roll(x, 7);
        Due.due(Due.NOT_NOW, x::end);
        x.thief(4, 4, -1);
        Due.due(1, x::end);
    }

    private static void bank() {
        HexhavenIsle x = Due.two(6, 10);
        Due.due(Due.BAD, () -> x.bank('x', 'w'));
        Due.due(Due.BAD, () -> x.bank('w', 'd'));
        Due.due(Due.BAD, () -> x.bank('w', 'w'));
        Due.due(Due.NOT_NOW, () -> x.bank('w', 'b'));
        Due.roll(x, 6);
        Due.refused(x, 2, Due.NOT_SO, () -> x.bank('b', 'o'));
        x.end();
        Due.pass(x, 6);
        Due.roll(x, 3);
        Due.due("3 5 5 2 0", () -> Due.all(x, 0));
        Due.due(4, () -> x.bank('b', 'o'));
        Due.due("3 1 5 2 1", () -> Due.all(x, 0));
        Due.due(18, () -> x.left('b'));
        Due.due(13, () -> x.left('o'));
        Due.refused(x, 2, Due.NOT_SO, () -> x.bank('w', 'o'));
        HexhavenIsle y = Due.full(6);
        y.harbour(1, 1, 0, '?');
        y.harbour(1, 2, 1, 's');
        Due.beginTwo(y, 10);
        Due.roll(y, 6);
        Due.due("2 3 3 1 0", () -> Due.all(y, 0));
        Due.due(3, () -> y.bank('b', 'o'));
        Due.due(2, () -> y.bank('s', 'o'));
        Due.refused(y, 2, Due.NOT_SO, () -> y.bank('w', 'o'));
        Due.due("2 0 1 1 2", () -> Due.all(y, 0));
        Due.due(true, y::isTrue);
    }

    private static void bankHasNone() {
        HexhavenIsle x = Due.two(6, 10);
        for (int i = 0; i < 9; i++) {
            Due.pass(x, 6);
        }
        // 19 ore are with the player 1
        Due.due(0, () -> x.left('o'));
        Due.pass(x, 3);
        Due.roll(x, 3);
        Due.refused(x, 2, Due.NOT_SO, () -> x.bank('b', 'o'));
        Due.due(2, () -> x.left('s'));
        Due.due(4, () -> x.bank('b', 's'));
    }

    private static void offer() {
        HexhavenIsle x = Due.two(6, 10);
        Due.due(Due.NOT_NOW, () -> x.offer(10000, 1));
        Due.due(Due.BAD, () -> x.offer(0, 1));
        Due.due(Due.BAD, () -> x.offer(1, 0));
        Due.due(Due.BAD, () -> x.offer(-1, 1));
        Due.due(Due.BAD, () -> x.offer(1, -1));
        Due.due(Due.BAD, () -> x.offer(100000, 1));
        Due.due(Due.BAD, () -> x.offer(1, 100000));
        Due.due(Due.BAD, () -> x.offer(10100, 101));
        Due.roll(x, 3);
        Due.due(Due.BAD, () -> x.offer(10010, 10));
        Due.refused(x, 2, Due.NOT_SO, () -> x.offer(20000, 1));
        Due.refused(x, 2, Due.NOT_SO, () -> x.offer(10, 1));
        Due.due(false, () -> x.offer(11000, 11));
        Due.refused(x, 2, Due.NOT_SO, () -> x.offer(10, 1));
        Due.due(true, () -> x.offer(11100, 99));
        Due.due("1 1 1 0 0", () -> Due.all(x, 0));
        // the second one has taken the place of the first one
        Due.due(Due.NOT_SO, () -> x.take(1));
        Due.due(true, () -> x.offer(10000, 11));
        Due.due(2, () -> x.take(1));
        Due.due(false, () -> x.offer(1, 1000));
    }

    private static void take() {
        HexhavenIsle x = Due.two(6, 10);
        Due.due(Due.NO_INDEX, () -> x.take(2));
        Due.due(Due.NO_INDEX, () -> x.take(-1));
        Due.due(Due.NOT_NOW, () -> x.take(1));
        Due.roll(x, 3);
        Due.due(Due.MISSING, () -> x.take(1));
        Due.due(Due.MISSING, () -> x.take(0));
        x.offer(11000, 1);
        Due.refused(x, 2, Due.NOT_SO, () -> x.take(0));
        Due.due(4, () -> x.take(1));
        Due.due("0 0 1 0 1", () -> Due.all(x, 0));
        Due.due("1 1 1 1 0", () -> Due.all(x, 1));
        Due.due(Due.MISSING, () -> x.take(1));
        x.offer(1, 1000);
        Due.due(4, () -> x.take(1));
        x.offer(1000, 2);
        Due.refused(x, 2, Due.NOT_SO, () -> x.take(1));
        Due.due(true, () -> x.offer(1000, 10000));
        Due.due(4, () -> x.take(1));
        Due.due(true, x::isTrue);
        // who offers has spent the goods
        HexhavenIsle y = Due.two(6, 10);
        Due.roll(y, 3);
        y.offer(11000, 1);
        y.road(1, 1, 1);
        Due.refused(y, 2, Due.NOT_SO, () -> y.take(1));
        Due.due(true, () -> y.offer(100, 1));
    }

    private static void offersEnd() {
        HexhavenIsle x = Due.two(12, 10);
        Due.roll(x, 3);
        x.offer(10000, 1);
        x.end();
        Due.due(Due.NOT_NOW, () -> x.take(0));
        Due.roll(x, 3);
        Due.due(Due.MISSING, () -> x.take(0));
        Due.due(false, () -> x.offer(1, 10000));
    }

    private static void buy() {
        HexhavenIsle x = cardIsle(10);
        Due.due(Due.NOT_NOW, x::buy);
        Due.roll(x, 6);
        Due.due("1 1 2 1 1", () -> Due.all(x, 0));
        Due.pick(x, 25, 14);
        int z = x.seed(1);
        x.seed(z);
        Due.due(24, x::buy);
        Due.due((int) Due.next(z), () -> x.seed(1));
        Due.due("1 1 1 0 0", () -> Due.all(x, 0));
        Due.due(1, () -> x.cards(0, 'v'));
        Due.due(0, () -> x.cards(0, 'k'));
        Due.due(17, () -> x.left('g'));
        Due.refused(x, 2, Due.NOT_SO, x::buy);
        Due.due(2, () -> x.points(0, true));
        Due.due(3, () -> x.points(0, false));
        Due.due(true, x::isTrue);
    }

    private static void pileInOrder() {
        int[] firsts = {0, 13, 14, 18, 19, 20, 21, 22, 23, 24};
        String kinds = "kkvvmmpprr";
        for (int i = 0; i < firsts.length; i++) {
            HexhavenIsle x = cardIsle(10);
            Due.roll(x, 6);
            buyAt(x, 25, firsts[i]);
            char kind = kinds.charAt(i);
            for (char card : "kvmpr".toCharArray()) {
                Due.due(card == kind ? 1 : 0, () -> x.cards(0, card));
            }
        }
        // a knight less: the cards of points begin a place ahead
        HexhavenIsle x = cardIsle(10);
        Due.pass(x, 6);
        Due.pass(x, 6);
        Due.roll(x, 3);
        buyAt(x, 25, 0);
        buyAt(x, 24, 13);
        Due.due(1, () -> x.cards(0, 'k'));
        Due.due(1, () -> x.cards(0, 'v'));
    }

    private static void pileRunsOut() {
        HexhavenIsle x = cardIsle(10);
        int[] counts = new int[128];
        for (int left = 25; left > 0; left--) {
            Due.roll(x, 6);
            x.seed(left * 7919);
            int due = left - 1;
            Due.due(due, x::buy);
            x.end();
            // sheep, grain and ore of the other one go back to the bank
            Due.roll(x, 3);
            for (char good : "sgo".toCharArray()) {
                if (x.has(1, good) >= 4) {
                    x.bank(good, 'w');
                }
            }
            x.end();
        }
        for (char card : "kvmpr".toCharArray()) {
            counts[card] = x.cards(0, card);
        }
        Due.due("14 5 2 2 2", () -> counts['k'] + " " + counts['v'] + " " + counts['m'] + " " + counts['p'] + " "
                + counts['r']);
        Due.roll(x, 6);
        Due.due(true, () -> x.has(0, 's') > 0 && x.has(0, 'g') > 0 && x.has(0, 'o') > 0);
        Due.refused(x, 2, Due.NOT_SO, x::buy);
        Due.due(7, () -> x.points(0, false));
    }

    private static void knights() {
        HexhavenIsle x = cardIsle(10);
        Due.roll(x, 6);
        buyAt(x, 25, 0);
        Due.refused(x, 2, Due.NOT_SO, () -> x.play('k', 'x', 'x'));
        x.end();
        Due.pass(x, 3);
        Due.due(Due.NOT_NOW, () -> x.play('k', 'w', 'w'));
        Due.roll(x, 3);
        x.offer(100, 1);
        Due.due(1, () -> x.play('k', '\0', '?'));
        Due.due('t', x::phase);
        Due.due(0, () -> x.cards(0, 'k'));
        Due.due(Due.NOT_NOW, () -> x.take(1));
        Due.due(Due.NOT_NOW, x::buy);
        Due.due('-', () -> x.thief(4, 4, -1));
        Due.due('a', x::phase);
        // the offer is there still
        Due.due(6, () -> x.take(1));
        Due.due(-1, () -> x.title('k'));
    }

    /** A turn of whose it is: buys a knight, and plays the one of the turn ahead. */
    private static void knightTurn(HexhavenIsle x, int left, int played) {
        int player = x.turn();
        Due.roll(x, 6);
        buyAt(x, left, 0);
        if (played > 0) {
            Due.due(played, () -> x.play('k', 'w', 'w'));
            int column = x.thiefAt() == 4 ? 1 : 0;
            Due.due('-', () -> x.thief(column, 4, -1));
            Due.refused(x, 2, Due.NOT_SO, () -> x.play('k', 'w', 'w'));
        }
        Due.due(player, x::turn);
        x.end();
    }

    private static void titleOfKnights() {
        HexhavenIsle x = cardIsle(10);
        int left = 25;
        for (int i = 0; i < 3; i++) {
            knightTurn(x, left--, i);
            knightTurn(x, left--, i);
        }
        Due.due(-1, () -> x.title('k'));
        knightTurn(x, left--, 3);
        Due.due(0, () -> x.title('k'));
        Due.due(4, () -> x.points(0, true));
        knightTurn(x, left--, 3);
        // as many are not more
        Due.due(0, () -> x.title('k'));
        Due.pass(x, 6);
        knightTurn(x, left--, 4);
        Due.due(1, () -> x.title('k'));
        Due.due(2, () -> x.points(0, true));
        Due.due(4, () -> x.points(1, true));
        Due.due(true, x::isTrue);
    }

    private static void monopoly() {
        HexhavenIsle x = cardIsle(10);
        Due.roll(x, 6);
        buyAt(x, 25, 19);
        x.end();
        Due.pass(x, 6);
        Due.roll(x, 6);
        Due.due("0 0 4 4 4", () -> Due.all(x, 1));
        Due.due("1 1 3 2 2", () -> Due.all(x, 0));
        Due.due(Due.BAD, () -> x.play('m', 'd', 's'));
        Due.due(13, () -> x.play('m', 's', 'x'));
        Due.due("0 0 0 4 4", () -> Due.all(x, 1));
        Due.due("1 1 7 2 2", () -> Due.all(x, 0));
        Due.due('a', x::phase);
        Due.due(true, x::isTrue);
    }

    private static void plenty() {
        HexhavenIsle x = cardIsle(10);
        Due.roll(x, 6);
        buyAt(x, 25, 21);
        x.end();
        Due.pass(x, 3);
        Due.roll(x, 3);
        Due.due("1 1 1 0 0", () -> Due.all(x, 0));
        Due.due(Due.BAD, () -> x.play('p', 'w', 'x'));
        Due.due(Due.BAD, () -> x.play('p', 'x', 'w'));
        Due.due(5, () -> x.play('p', 'o', 'w'));
        Due.due("2 1 1 0 1", () -> Due.all(x, 0));
        // as far as the bank has them: 1 grain is left
        HexhavenIsle y = cardIsle(10);
        Due.roll(y, 6);
        buyAt(y, 25, 21);
        y.end();
        for (int i = 0; y.left('g') > 1; i++) {
            Due.pass(y, i % 2 == 0 ? 3 : y.left('g') > 2 ? 6 : 3);
            if (i > 40) {
                break;
            }
        }
        for (int i = 0; i < 4 && y.turn() != 0; i++) {
            Due.pass(y, 3);
        }
        Due.roll(y, 3);
        int before = y.goods(0);
        int grain = y.left('g');
        Due.due(1, () -> grain);
        Due.due(before + 1, () -> y.play('p', 'g', 'g'));
        Due.due(0, () -> y.left('g'));
        Due.due(0, () -> y.cards(0, 'p'));
        Due.due(true, y::isTrue);
    }

    private static void freeRoads() {
        HexhavenIsle x = cardIsle(10);
        Due.roll(x, 6);
        buyAt(x, 25, 24);
        x.end();
        Due.pass(x, 3);
        Due.roll(x, 3);
        Due.due(3, () -> x.play('r', 'x', 'x'));
        Due.due(2, () -> x.road(1, 1, 1));
        Due.refused(x, 2, Due.NOT_SO, () -> x.road(4, 4, 1));
        Due.due(3, () -> x.road(1, 1, 2));
        Due.due("1 1 1 0 0", () -> Due.all(x, 0));
        // the third one is paid
        Due.due(4, () -> x.road(1, 1, 3));
        Due.due("0 0 1 0 0", () -> Due.all(x, 0));
    }

    private static void freeRoadsEnd() {
        HexhavenIsle x = cardIsle(10);
        Due.roll(x, 6);
        buyAt(x, 25, 24);
        x.end();
        Due.pass(x, 3);
        Due.roll(x, 3);
        x.play('r', 'x', 'x');
        x.road(1, 1, 1);
        x.end();
        Due.pass(x, 3);
        Due.roll(x, 3);
        Due.due(3, () -> x.road(1, 1, 2));
        Due.due("0 0 1 0 0", () -> Due.all(x, 0));
        Due.refused(x, 2, Due.NOT_SO, () -> x.road(1, 1, 3));
    }

    private static void playErrors() {
        HexhavenIsle x = cardIsle(10);
        for (char card : "vx-w\0".toCharArray()) {
            Due.due(Due.BAD, () -> x.play(card, 'w', 'w'));
        }
        Due.due(Due.BAD, () -> x.play('m', 'x', 'w'));
        Due.due(Due.BAD, () -> x.play('p', 'w', 'd'));
        Due.due(Due.NOT_NOW, () -> x.play('p', 'w', 'w'));
        Due.pass(x, 6);
        Due.pass(x, 6);
        Due.roll(x, 6);
        Due.due(Due.NOT_SO, () -> x.play('r', 'w', 'w'));
        buyAt(x, 25, 0);
        buyAt(x, 24, 23);
        buyAt(x, 23, 13);
        Due.due(1, () -> x.cards(0, 'k'));
        Due.due(1, () -> x.cards(0, 'r'));
        Due.due(1, () -> x.cards(0, 'v'));
        Due.refused(x, 2, Due.NOT_SO, () -> x.play('r', 'w', 'w'));
        x.end();
        Due.pass(x, 3);
        Due.roll(x, 6);
        // a second knight that was bought now does not keep the first one back
        buyAt(x, 22, 0);
        Due.due(1, () -> x.play('k', 'w', 'w'));
        x.thief(4, 4, -1);
        Due.refused(x, 2, Due.NOT_SO, () -> x.play('r', 'w', 'w'));
        Due.refused(x, 2, Due.NOT_SO, () -> x.play('k', 'w', 'w'));
        x.end();
        Due.pass(x, 3);
        Due.roll(x, 3);
        Due.due(true, () -> x.play('r', 'w', 'w') == x.goods(0));
    }

    private static void counts() {
        HexhavenIsle x = cardIsle(10);
        Due.due(3, () -> x.goods(0));
        Due.due(Due.NO_INDEX, () -> x.goods(2));
        Due.due(Due.NO_INDEX, () -> x.goods(-1));
        Due.due(1, () -> x.has(1, 'o'));
        Due.due(Due.NO_INDEX, () -> x.has(2, 'x'));
        Due.due(Due.BAD, () -> x.has(1, 'd'));
        Due.due(Due.BAD, () -> x.has(1, '-'));
        Due.due(Due.NO_INDEX, () -> x.cards(2, 'x'));
        Due.due(Due.BAD, () -> x.cards(1, 'w'));
        Due.due(0, () -> x.cards(1, 'v'));
        Due.due(Due.BAD, () -> x.left('?'));
        Due.due(18, () -> x.left('w'));
        Due.due(17, () -> x.left('s'));
    }

    private static void rate() {
        HexhavenIsle x = Due.full(12);
        x.harbour(1, 0, 1, 'w');
        x.harbour(2, 2, 3, '?');
        x.harbour(3, 2, 2, 'o');
        x.harbour(3, 1, 3, 'g');
        Due.beginTwo(x, 10);
        // of the harbours, the corner 2 of (1, 0) and 4 of (2, 2) are with the player 0, 2 of (3, 2) with 1
        Due.due(2, () -> x.rate(0, 'w'));
        Due.due(3, () -> x.rate(0, 'b'));
        Due.due(3, () -> x.rate(0, 'o'));
        Due.due(4, () -> x.rate(1, 'w'));
        Due.due(2, () -> x.rate(1, 'o'));
        Due.due(4, () -> x.rate(1, 'g'));
        Due.due(Due.NO_INDEX, () -> x.rate(2, 'x'));
        Due.due(Due.BAD, () -> x.rate(1, '?'));
    }

    private static void expects() {
        HexhavenIsle x = Due.full(6);
        x.land(1, 2, 'w', 12);
        x.land(2, 2, 'b', 4);
        x.land(1, 3, 'd', 4);
        Due.beginTwo(x, 10);
        Due.due(13, x::thiefAt);
        Due.due(1, () -> x.expects(0, 'w'));
        Due.due(8, () -> x.expects(0, 'b'));
        Due.due(5, () -> x.expects(0, 's'));
        Due.due(0, () -> x.expects(0, 'o'));
        Due.due(10, () -> x.expects(1, 'o'));
        Due.due(Due.NO_INDEX, () -> x.expects(2, 'x'));
        Due.due(Due.BAD, () -> x.expects(1, 'd'));
        Due.roll(x, 7);
        x.thief(2, 2, -1);
        Due.due(5, () -> x.expects(0, 'b'));
        x.end();
        Due.roll(x, 6);
        x.end();
        Due.pass(x, 6);
        Due.roll(x, 3);
        x.town(3, 1, 0);
        Due.due(15, () -> x.expects(1, 'o'));
        Due.due(10, () -> x.expects(1, 'w'));
    }
}
