import java.util.function.Supplier;

/**
 * Two objects made alike. One of both is given the calls that are to be refused; behind each of them all that can
 * be asked must be as before, and at the end both must play on alike, so that nothing hidden has changed either.
 */
final class Twin {
    private static final String GOODS = "wbsgo";
    private static final int STEPS = 40;

    private final HexhavenIsle touched;
    private final HexhavenIsle other;
    private final String before;

    interface Call {
        Object on(HexhavenIsle x);
    }

    Twin(Supplier<HexhavenIsle> make) {
        touched = make.get();
        other = make.get();
        before = told(touched);
    }

    /** A call that throws that, and after which the object answers as before. */
    Twin refuses(Class<?> kind, Call call) {
        Due.due(kind, () -> call.on(touched));
        Due.due(before, () -> told(touched));
        return this;
    }

    /** A call that throws that; whether it has changed anything is seen at the end. */
    Twin quickly(Class<?> kind, Call call) {
        Due.due(kind, () -> call.on(touched));
        return this;
    }

    void playsOnAlike() {
        Due.due(before, () -> told(touched));
        Due.due(playOn(other) + told(other), () -> playOn(touched) + told(touched));
    }

    /** Calls that are refused of an object made so, each one with the same exception. */
    static void refused(Supplier<HexhavenIsle> make, Class<?> kind, Call... calls) {
        Twin twin = new Twin(make);
        for (Call call : calls) {
            twin.refuses(kind, call);
        }
        twin.playsOnAlike();
    }

    static Object answer(HexhavenIsle x, Call call) {
        try {
            return call.on(x);
        } catch (RuntimeException e) {
            return e.getClass();
        }
    }

    private static Object tell(StringBuilder told, HexhavenIsle x, Call call) {
        Object got = answer(x, call);
        told.append(got instanceof Class ? ((Class<?>) got).getSimpleName().substring(0, 9) : got).append(' ');
        return got;
    }

    private static boolean isAnswered(StringBuilder told, HexhavenIsle x, Call call) {
        return !(tell(told, x, call) instanceof Class);
    }

    // ---- all that can be asked

    static String told(HexhavenIsle x) {
        StringBuilder told = new StringBuilder(toldOfGame(x));
        for (int i = 0; i < 4; i++) {
            int player = i;
            tell(told, x, y -> y.rating(player));
        }
        return told.toString();
    }

    /** All but the ratings, which go on from game to game. */
    static String toldOfGame(HexhavenIsle x) {
        StringBuilder told = new StringBuilder();
        tell(told, x, HexhavenIsle::phase);
        tell(told, x, HexhavenIsle::turn);
        tell(told, x, HexhavenIsle::thiefAt);
        tell(told, x, HexhavenIsle::checksum);
        tell(told, x, HexhavenIsle::isTrue);
        tell(told, x, HexhavenIsle::touching);
        tell(told, x, HexhavenIsle::landShare);
        tell(told, x, HexhavenIsle::meanPoints);
        tell(told, x, y -> y.title('w'));
        tell(told, x, y -> y.title('k'));
        for (char worth : "pvn".toCharArray()) {
            tell(told, x, y -> y.advise(worth));
        }
        for (char good : GOODS.toCharArray()) {
            tell(told, x, y -> y.left(good));
        }
        for (int i = 0; i < 4; i++) {
            tellPlayer(told, x, i);
        }
        for (int i = 0; i < 150; i++) {
            tellSpot(told, x, i % 5, i / 5 % 5, i / 25);
        }
        return told.toString();
    }

    private static void tellPlayer(StringBuilder told, HexhavenIsle x, int player) {
        tell(told, x, y -> y.goods(player));
        tell(told, x, y -> y.way(player));
        tell(told, x, y -> y.points(player, true));
        tell(told, x, y -> y.points(player, false));
        for (char good : GOODS.toCharArray()) {
            tell(told, x, y -> y.has(player, good));
            tell(told, x, y -> y.rate(player, good));
            tell(told, x, y -> y.expects(player, good));
        }
        for (char card : "kvmpr".toCharArray()) {
            tell(told, x, y -> y.cards(player, card));
        }
    }

    private static void tellSpot(StringBuilder told, HexhavenIsle x, int column, int row, int k) {
        tell(told, x, y -> y.pips(column, row, k));
        tell(told, x, y -> y.at(column, row, k));
        tell(told, x, y -> y.roadAt(column, row, k));
        for (int i = 0; i < 4; i++) {
            int player = i;
            tell(told, x, y -> y.mayHouse(player, column, row, k));
            tell(told, x, y -> y.mayRoad(player, column, row, k));
        }
    }

    // ---- what comes then

    static String playOn(HexhavenIsle x) {
        StringBuilder told = new StringBuilder();
        for (int step = 0; step < STEPS; step++) {
            switch (x.phase()) {
                case 'h' -> putHouse(told, x);
                case 'w' -> putRoad(told, x);
                case 'r' -> tell(told, x, HexhavenIsle::roll);
                case 'l' -> lose(told, x);
                case 't' -> moveThief(told, x);
                case 'a' -> act(told, x, step);
                default -> beginAnew(told, x);
            }
        }
        return told.append(toldOfGame(x)).toString();
    }

    private static void beginAnew(StringBuilder told, HexhavenIsle x) {
        for (int i = 0; i < 150; i++) {
            int k = i;
            tell(told, x, y -> y.harbour(k % 5, k / 5 % 5, k / 25, k % 4 == 0 ? 'w' : '-'));
        }
        if (!isAnswered(told, x, y -> y.begin(3, 4))) {
            for (int i = 0; i < 25; i++) {
                int k = i;
                tell(told, x, y -> y.land(k % 5, k / 5, GOODS.charAt(k % 5), 6));
            }
        }
    }

    private static void putHouse(StringBuilder told, HexhavenIsle x) {
        Object spot = tell(told, x, y -> y.advise('n'));
        if (spot instanceof Integer) {
            int at = (Integer) spot;
            tell(told, x, y -> y.house(at / 100, at / 10 % 10, at % 10));
        }
    }

    /** The first road that can be there, if there is one. */
    private static void putRoad(StringBuilder told, HexhavenIsle x) {
        for (int i = 0; i < 150; i++) {
            int k = i;
            if (isAnswered(told, x, y -> y.road(k % 5, k / 5 % 5, k / 25))) {
                return;
            }
        }
    }

    private static void lose(StringBuilder told, HexhavenIsle x) {
        for (int i = 0; i < 4; i++) {
            int player = i;
            int goods = half(x, player);
            tell(told, x, y -> y.lose(player, goods));
        }
    }

    private static int half(HexhavenIsle x, int player) {
        Object all = answer(x, y -> y.goods(player));
        int due = all instanceof Integer ? (Integer) all / 2 : 0;
        int goods = 0;
        for (char good : GOODS.toCharArray()) {
            int given = due > 0 ? Math.min(9, Math.min(due, x.has(player, good))) : 0;
            due -= given;
            goods = 10 * goods + given;
        }
        return goods;
    }

    private static void moveThief(StringBuilder told, HexhavenIsle x) {
        for (int i = 0; i < 125; i++) {
            int k = i;
            if (isAnswered(told, x, y -> y.thief(k % 5, k / 5 % 5, k / 25 - 1))) {
                return;
            }
        }
    }

    private static void act(StringBuilder told, HexhavenIsle x, int step) {
        for (int i = 0; i < 4; i++) {
            int player = i;
            tell(told, x, y -> y.take(player));
        }
        for (char card : (step % 2 == 0 ? "mprk" : "krpm").toCharArray()) {
            tell(told, x, y -> y.play(card, GOODS.charAt(step % 5), 'o'));
        }
        for (int i = 0; i < 3; i++) {
            putRoad(told, x);
        }
        for (int i = 0; i < 150; i++) {
            int k = i;
            tell(told, x, y -> y.town(k % 5, k / 5 % 5, k / 25));
            tell(told, x, y -> y.house(k % 5, k / 5 % 5, k / 25));
        }
        tell(told, x, HexhavenIsle::buy);
        for (int i = 0; i < 25; i++) {
            int k = i;
            tell(told, x, y -> y.bank(GOODS.charAt(k % 5), GOODS.charAt(k / 5)));
        }
        tell(told, x, y -> y.offer(step % 3 == 0 ? 100 : 1, 10000));
        if (step % 4 != 3) {
            tell(told, x, HexhavenIsle::end);
        }
    }
}
