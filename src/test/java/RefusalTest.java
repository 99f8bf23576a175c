import java.util.ArrayList;
import java.util.List;
import java.util.Map;
import java.util.function.Supplier;

/**
 * Every row of the document that begins with 'Throws', but those of UnsupportedOperationException and
 * NoSuchElementException, in every phase: the values just inside and just outside of each range, the exception
 * that is listed first if several apply, and that nothing has changed behind a refused call.
 */
public final class RefusalTest {
    private static final int LEAST = Integer.MIN_VALUE;
    private static final int MOST = Integer.MAX_VALUE;
    private static final String GOODS = "wbsgo";

    /** A call with a place, and with a corner or a side, or a player, if it has them. */
    interface At {
        Object on(HexhavenIsle x, int column, int row, int k);
    }

    interface ByInt {
        Object on(HexhavenIsle x, int value);
    }

    interface ByChar {
        Object on(HexhavenIsle x, char value);
    }

    public static void main(String[] args) {
        for (Map.Entry<String, Supplier<HexhavenIsle>> stage : Stages.all().entrySet()) {
            Due.due(stage.getKey().charAt(0), () -> stage.getValue().get().phase());
            places(stage.getValue());
            corners(stage.getValue());
            players(stage.getValue());
            letters(stage.getValue());
            numbers(stage.getValue());
            phases(stage.getValue());
        }
        everyLetter();
        digitsOfOffers();
        goalsThatStay();
        insideOfRanges();
        Due.finish();
    }

    // ---- IndexOutOfBoundsException, which is listed first wherever it stands

    /** Whatever comes behind the place is wrong too, so that it is seen which exception is the first one. */
    private static List<At> placed() {
        List<At> calls = new ArrayList<>();
        calls.add((x, c, r, k) -> x.land(c, r, 'x', 7));
        calls.add((x, c, r, k) -> x.land(c, r, 'w', 6));
        calls.add((x, c, r, k) -> x.thief(c, r, 0));
        calls.add((x, c, r, k) -> x.thief(c, r, -1));
        calls.addAll(cornered());
        return calls;
    }

    private static List<At> cornered() {
        List<At> calls = new ArrayList<>();
        calls.add((x, c, r, k) -> x.harbour(c, r, k, 'd'));
        calls.add((x, c, r, k) -> x.harbour(c, r, k, '?'));
        calls.add(HexhavenIsle::pips);
        calls.add(HexhavenIsle::house);
        calls.add(HexhavenIsle::road);
        calls.add(HexhavenIsle::town);
        calls.add((x, c, r, k) -> x.mayHouse(0, c, r, k));
        calls.add((x, c, r, k) -> x.mayRoad(0, c, r, k));
        calls.add(HexhavenIsle::at);
        calls.add(HexhavenIsle::roadAt);
        return calls;
    }

    private static void places(Supplier<HexhavenIsle> make) {
        Twin twin = new Twin(make);
        for (At call : placed()) {
            for (int bad : new int[] {-1, 5, 6, LEAST, MOST}) {
                twin.quickly(Due.NO_INDEX, x -> call.on(x, bad, 0, 0));
                twin.quickly(Due.NO_INDEX, x -> call.on(x, 0, bad, 0));
                twin.quickly(Due.NO_INDEX, x -> call.on(x, 4, bad, 5));
                twin.quickly(Due.NO_INDEX, x -> call.on(x, bad, 4, 5));
                twin.quickly(Due.NO_INDEX, x -> call.on(x, bad, bad, bad));
            }
        }
        twin.playsOnAlike();
    }

    private static void corners(Supplier<HexhavenIsle> make) {
        Twin twin = new Twin(make);
        for (At call : cornered()) {
            for (int bad : new int[] {-1, 6, 7, LEAST, MOST}) {
                twin.quickly(Due.NO_INDEX, x -> call.on(x, 0, 0, bad));
                twin.quickly(Due.NO_INDEX, x -> call.on(x, 2, 3, bad));
                twin.quickly(Due.NO_INDEX, x -> call.on(x, 4, 4, bad));
            }
        }
        twin.playsOnAlike();
    }

    /** Here, too, whatever comes behind the player is wrong. */
    private static List<ByInt> withPlayer() {
        List<ByInt> calls = new ArrayList<>();
        calls.add((x, p) -> x.lose(p, -1));
        calls.add((x, p) -> x.lose(p, 0));
        calls.add(HexhavenIsle::take);
        calls.add(HexhavenIsle::goods);
        calls.add((x, p) -> x.has(p, 'x'));
        calls.add((x, p) -> x.has(p, 'o'));
        calls.add((x, p) -> x.cards(p, 'x'));
        calls.add((x, p) -> x.cards(p, 'r'));
        calls.add((x, p) -> x.points(p, true));
        calls.add((x, p) -> x.points(p, false));
        calls.add(HexhavenIsle::way);
        calls.add((x, p) -> x.mayHouse(p, 0, 0, 0));
        calls.add((x, p) -> x.mayRoad(p, 4, 4, 5));
        calls.add((x, p) -> x.rate(p, 'x'));
        calls.add((x, p) -> x.rate(p, 'b'));
        calls.add((x, p) -> x.expects(p, 'x'));
        calls.add((x, p) -> x.expects(p, 's'));
        return calls;
    }

    /** How many players there are: none ahead of games. */
    static int count(HexhavenIsle x) {
        int count = 0;
        while (count < 9 && !(Twin.answer(x, goodsOf(count)) instanceof Class)) {
            count++;
        }
        return count;
    }

    private static Twin.Call goodsOf(int player) {
        return x -> x.goods(player);
    }

    private static void players(Supplier<HexhavenIsle> make) {
        Twin twin = new Twin(make);
        int count = count(make.get());
        for (int bad : new int[] {-1, count, count + 1, 4, 5, LEAST, MOST}) {
            for (ByInt call : withPlayer()) {
                twin.quickly(Due.NO_INDEX, x -> call.on(x, bad));
            }
            if (bad != -1) {
                twin.quickly(Due.NO_INDEX, x -> x.thief(0, 0, bad));
                twin.quickly(Due.NO_INDEX, x -> x.thief(1, 1, bad));
            }
        }
        twin.quickly(Due.NO_INDEX, x -> x.thief(1, 1, -2));
        for (int bad : new int[] {-1, 4, 5, LEAST, MOST}) {
            twin.quickly(Due.NO_INDEX, x -> x.rating(bad));
        }
        twin.playsOnAlike();
        HexhavenIsle y = make.get();
        for (int i = 0; i < 4; i++) {
            int player = i;
            Due.due(true, () -> y.rating(player) > 0);
        }
    }

    // ---- IllegalArgumentException, ahead of IllegalStateException

    private static void letters(Supplier<HexhavenIsle> make) {
        Twin twin = new Twin(make);
        int last = count(make.get()) - 1;
        for (char bad : "x-d?kvWO\0\u0177\uffff".toCharArray()) {
            if (bad != '-' && bad != 'd') {
                twin.quickly(Due.BAD, x -> x.land(4, 4, bad, 6));
            }
            if (bad != '-' && bad != '?') {
                twin.quickly(Due.BAD, x -> x.harbour(4, 4, 5, bad));
            }
            twin.quickly(Due.BAD, x -> x.bank(bad, 'w'));
            twin.quickly(Due.BAD, x -> x.bank('w', bad));
            twin.quickly(Due.BAD, x -> x.bank(bad, bad));
            twin.quickly(Due.BAD, x -> x.play('m', bad, 'w'));
            twin.quickly(Due.BAD, x -> x.play('p', bad, 'w'));
            twin.quickly(Due.BAD, x -> x.play('p', 'w', bad));
            twin.quickly(Due.BAD, x -> x.left(bad));
            if (bad != 'v') {
                twin.quickly(Due.BAD, x -> x.advise(bad));
            }
            if (bad != 'k') {
                twin.quickly(Due.BAD, x -> x.play(bad, 'w', 'w'));
                twin.quickly(Due.BAD, x -> x.title(bad));
            }
            if (last >= 0) {
                twin.quickly(Due.BAD, x -> x.has(last, bad));
                twin.quickly(Due.BAD, x -> x.rate(last, bad));
                twin.quickly(Due.BAD, x -> x.expects(last, bad));
            }
            if (last >= 0 && bad != 'k' && bad != 'v') {
                twin.quickly(Due.BAD, x -> x.cards(last, bad));
            }
        }
        for (char good : GOODS.toCharArray()) {
            twin.quickly(Due.BAD, x -> x.bank(good, good));
        }
        twin.playsOnAlike();
    }

    private static void numbers(Supplier<HexhavenIsle> make) {
        Twin twin = new Twin(make);
        for (int bad : new int[] {1, 7, 13, 0, -6, LEAST, MOST}) {
            for (char good : GOODS.toCharArray()) {
                twin.quickly(Due.BAD, x -> x.land(4, 4, good, bad));
            }
        }
        for (int bad : new int[] {1, 5, 0, -2, LEAST, MOST}) {
            twin.quickly(Due.BAD, x -> x.begin(bad, 3));
            twin.quickly(Due.BAD, x -> x.begin(bad, 10));
        }
        for (int bad : new int[] {2, 11, 0, -3, LEAST, MOST}) {
            twin.quickly(Due.BAD, x -> x.begin(2, bad));
            twin.quickly(Due.BAD, x -> x.begin(4, bad));
        }
        for (int bad : new int[] {0, -1, LEAST, MOST}) {
            twin.quickly(Due.BAD, x -> x.seed(bad));
        }
        for (int bad : new int[] {0, -1, 100000, LEAST, MOST}) {
            twin.quickly(Due.BAD, x -> x.offer(bad, 1));
            twin.quickly(Due.BAD, x -> x.offer(10000, bad));
            twin.quickly(Due.BAD, x -> x.offer(bad, bad));
        }
        if (count(make.get()) > 0) {
            for (int bad : new int[] {-1, 100000, LEAST, MOST}) {
                twin.quickly(Due.BAD, x -> x.lose(0, bad));
                twin.quickly(Due.BAD, x -> x.lose(1, bad));
            }
        }
        twin.playsOnAlike();
    }

    // ---- IllegalStateException, ahead of UnsupportedOperationException and NoSuchElementException

    private static void phases(Supplier<HexhavenIsle> make) {
        Twin twin = new Twin(make);
        phasesOfPlaces(make, twin);
        phasesOfBuilding(make, twin);
        phasesOfTurns(make, twin);
        phasesOfTrading(make, twin);
        twin.playsOnAlike();
    }

    private static void phasesOfPlaces(Supplier<HexhavenIsle> make, Twin twin) {
        phase(make, twin, "-o", x -> x.land(4, 4, 'w', 2));
        phase(make, twin, "-o", x -> x.land(0, 0, 'o', 12));
        phase(make, twin, "-o", x -> x.land(2, 2, '-', 7));
        phase(make, twin, "-o", x -> x.land(2, 2, 'd', 7));
        phase(make, twin, "-o", x -> x.harbour(0, 0, 0, '?'));
        phase(make, twin, "-o", x -> x.harbour(4, 4, 5, '-'));
        for (int i = 0; i < 150; i++) {
            int k = i;
            phase(make, twin, "-o", x -> x.harbour(k % 5, k / 5 % 5, k / 25, "?wbsgo-".charAt(k % 7)));
        }
        phase(make, twin, "-o", x -> x.begin(2, 3));
        phase(make, twin, "-o", x -> x.begin(4, 10));
        phase(make, twin, "hwrltao", HexhavenIsle::turn);
        phase(make, twin, "hwrltao", HexhavenIsle::thiefAt);
    }

    private static void phasesOfBuilding(Supplier<HexhavenIsle> make, Twin twin) {
        for (int i = 0; i < 150; i++) {
            int k = i;
            phase(make, twin, "ha", x -> x.house(k % 5, k / 5 % 5, k / 25));
            phase(make, twin, "wa", x -> x.road(k % 5, k / 5 % 5, k / 25));
            phase(make, twin, "a", x -> x.town(k % 5, k / 5 % 5, k / 25));
        }
        phase(make, twin, "ha", x -> x.advise('p'));
        phase(make, twin, "ha", x -> x.advise('v'));
        phase(make, twin, "ha", x -> x.advise('n'));
        phase(make, twin, "a", HexhavenIsle::buy);
    }

    private static void phasesOfTurns(Supplier<HexhavenIsle> make, Twin twin) {
        phase(make, twin, "r", HexhavenIsle::roll);
        phase(make, twin, "a", HexhavenIsle::end);
        for (int i = 0; i < 25; i++) {
            int k = i;
            phase(make, twin, "t", x -> x.thief(k % 5, k / 5, -1));
        }
        for (int i = 0; i < count(make.get()); i++) {
            int player = i;
            phase(make, twin, "l", x -> x.lose(player, 0));
            phase(make, twin, "l", x -> x.lose(player, 54444));
            phase(make, twin, "l", x -> x.lose(player, 99999));
            phase(make, twin, "t", x -> x.thief(1, 1, player));
            phase(make, twin, "t", x -> x.thief(3, 1, player));
            phase(make, twin, "a", x -> x.take(player));
        }
    }

    private static void phasesOfTrading(Supplier<HexhavenIsle> make, Twin twin) {
        for (int i = 0; i < 25; i++) {
            char give = GOODS.charAt(i % 5);
            char take = GOODS.charAt(i / 5);
            if (give != take) {
                phase(make, twin, "a", x -> x.bank(give, take));
            }
            phase(make, twin, "a", x -> x.play('p', give, take));
        }
        phase(make, twin, "a", x -> x.offer(1, 10000));
        phase(make, twin, "a", x -> x.offer(10000, 1));
        phase(make, twin, "a", x -> x.offer(99900, 99));
        phase(make, twin, "a", x -> x.play('m', 's', 'x'));
        phase(make, twin, "a", x -> x.play('k', 'x', 'x'));
        phase(make, twin, "a", x -> x.play('r', 'x', 'x'));
    }

    /** In those phases it is anything but an IllegalStateException that the call brings, in others just that. */
    private static void phase(Supplier<HexhavenIsle> make, Twin twin, String phases, Twin.Call call) {
        HexhavenIsle x = make.get();
        if (phases.indexOf(x.phase()) < 0) {
            twin.quickly(Due.NOT_NOW, call);
        } else {
            Due.due(false, () -> Due.NOT_NOW.equals(Twin.answer(x, call)));
        }
    }

    // ---- whole ranges

    /** Of all letters that there are, those that the document tells, and no others. */
    private static void everyLetter() {
        HexhavenIsle sea = new HexhavenIsle();
        HexhavenIsle game = Stages.rich(10, 2);
        for (int i = 0; i <= Character.MAX_VALUE; i++) {
            char letter = (char) i;
            known("wbsgod-", letter, sea, x -> x.land(1, 1, letter, 6));
            known("wbsgo?-", letter, sea, x -> x.harbour(1, 1, 1, letter));
            known(GOODS, letter, game, x -> x.left(letter));
            known(GOODS, letter, game, x -> x.has(1, letter));
            known(GOODS, letter, game, x -> x.rate(1, letter));
            known(GOODS, letter, game, x -> x.expects(1, letter));
            known("kvmpr", letter, game, x -> x.cards(1, letter));
            known("wk", letter, game, x -> x.title(letter));
            known("pvn", letter, game, x -> x.advise(letter));
            // goods, or cards, are missing here for what is known
            known("bsgo", letter, game, x -> x.bank('w', letter));
            known("wbsg", letter, game, x -> x.bank(letter, 'o'));
            known("kmpr", letter, game, x -> x.play(letter, 'w', 'w'));
            known(GOODS, letter, game, x -> x.play('m', letter, 'x'));
            known(GOODS, letter, game, x -> x.play('p', letter, 'w'));
            known(GOODS, letter, game, x -> x.play('p', 'w', letter));
        }
        for (char letter : "x-\0\uffff".toCharArray()) {
            // here the letters are of no meaning
            Due.due(Due.NOT_SO, () -> game.play('k', letter, letter));
            Due.due(Due.NOT_SO, () -> game.play('r', letter, letter));
            Due.due(Due.NOT_SO, () -> game.play('m', 'w', letter));
        }
    }

    private static void known(String letters, char letter, HexhavenIsle x, Twin.Call call) {
        boolean isKnown = letters.indexOf(letter) >= 0;
        Due.due(isKnown, () -> !Due.BAD.equals(Twin.answer(x, call)));
    }

    /** No good may be in both: for each of the five digits, and for no two unlike ones. */
    private static void digitsOfOffers() {
        int[] ones = {10000, 1000, 100, 10, 1};
        for (int give : ones) {
            for (int want : ones) {
                Supplier<HexhavenIsle> make = () -> Stages.rich(10, 2);
                if (give == want) {
                    Twin.refused(make, Due.BAD, x -> x.offer(give, want), x -> x.offer(9 * give, want),
                            x -> x.offer(give, 9 * want), x -> x.offer(11111, want), x -> x.offer(give, 99999));
                } else {
                    Due.due(false, () -> make.get().offer(give, want));
                    Due.due(false, () -> make.get().offer(give, 9 * want));
                    Due.due(false, () -> make.get().offer(2 * give, 99999 - 9 * give));
                }
            }
        }
    }

    /** A game that is not begun leaves the goal, and how many players there are, of the one that goes on. */
    private static void goalsThatStay() {
        for (int goal = 3; goal <= 4; goal++) {
            for (int i = 0; i < 6; i++) {
                int players = new int[] {2, 2, 4, 2, 1, 5}[i];
                int told = new int[] {10, 3, 4, 11, 3, 10}[i];
                HexhavenIsle x = Stages.rich(goal, 8);
                Due.due(i < 3 ? Due.NOT_NOW : Due.BAD, () -> x.begin(players, told));
                TurnTest.buyAt(x, 25, 14);
                Due.due(goal == 3 ? 'o' : 'a', x::phase);
                if (goal == 4) {
                    TurnTest.buyAt(x, 24, 14);
                    Due.due('o', x::phase);
                }
                Due.due(2, () -> count(x));
                Due.due(1516, () -> x.rating(0));
            }
        }
    }

    /** The first and the last value of each range are taken. */
    private static void insideOfRanges() {
        HexhavenIsle x = new HexhavenIsle();
        for (int i = -20; i <= 20; i++) {
            int number = i;
            for (char good : GOODS.toCharArray()) {
                boolean isKnown = number >= 2 && number <= 12 && number != 7;
                Due.due(isKnown, () -> Twin.answer(x, y -> y.land(3, 3, good, number)) instanceof Character);
            }
            Due.due(true, () -> "wbsgo-d".indexOf(x.land(3, 3, 'd', number)) >= 0);
            Due.due('d', () -> x.land(3, 3, '-', number));
        }
        for (int players = 2; players <= 4; players++) {
            for (int goal = 3; goal <= 10; goal++) {
                int n = players;
                int points = goal;
                HexhavenIsle y = Stages.island();
                Due.due(25, () -> y.land(4, 4, 'w', 9) == '-' ? y.begin(n, points) : 0);
                Due.due(0, () -> y.goods(n - 1) + y.way(n - 1) + y.points(n - 1, false));
                Due.due(n, () -> count(y));
            }
        }
        for (int seed : new int[] {1, 2, 2147483645, 2147483646, 3}) {
            int before = x.seed(seed);
            Due.due(true, () -> before >= 1);
            Due.due(seed, () -> x.seed(seed));
        }
        HexhavenIsle z = Stages.rich(10, 2);
        for (int k = 0; k < 150; k++) {
            int i = k;
            Due.due(true, () -> z.pips(i % 5, i / 5 % 5, i / 25) >= 0 && z.at(i % 5, i / 5 % 5, i / 25) >= -1
                    && z.roadAt(i % 5, i / 5 % 5, i / 25) >= -1);
        }
        Due.due(Due.NOT_SO, () -> Stages.all().get("l one has lost, another one is to lose").get().lose(1, 99999));
    }
}
