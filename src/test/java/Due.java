/** What the tests share: answers that are due, islands to begin with, and seeds that bring what is wanted. */
final class Due {
    static final Class<?> NO_INDEX = IndexOutOfBoundsException.class;
    static final Class<?> BAD = IllegalArgumentException.class;
    static final Class<?> NOT_NOW = IllegalStateException.class;
    static final Class<?> NOT_SO = UnsupportedOperationException.class;
    static final Class<?> MISSING = java.util.NoSuchElementException.class;

    /** Behind so many wrong answers the others tell nothing more. */
    private static final int ENOUGH = 100;
    private static int wrong = 0;

    interface Call {
        Object run();
    }

    private Due() {
    }

    /** The answer, or the class of the exception, that a call is to bring. */
    static void due(Object want, Call call) {
        Object got;
        try {
            got = call.run();
        } catch (RuntimeException e) {
            got = e.getClass();
        }
        if (!want.equals(got)) {
            wrong++;
            for (StackTraceElement at : new Throwable().getStackTrace()) {
                if (!at.getClassName().equals("Due") && !at.getClassName().equals("Twin")) {
                    int from = sameAhead(got.toString(), want.toString());
                    System.out.println(at + " answered " + part(got, from) + ", due is " + part(want, from));
                    break;
                }
            }
            if (wrong == ENOUGH) {
                finish();
            }
        }
    }

    /** Of long answers, where they begin to be unlike. */
    private static int sameAhead(String one, String other) {
        int same = 0;
        while (same < one.length() && same < other.length() && one.charAt(same) == other.charAt(same)) {
            same++;
        }
        return one.length() > 80 ? Math.max(0, same - 30) : 0;
    }

    private static String part(Object answer, int from) {
        String told = answer.toString();
        int begin = Math.min(from, told.length());
        return (begin > 0 ? ".." : "") + told.substring(begin, Math.min(told.length(), begin + 80));
    }

    static void finish() {
        System.out.println(wrong == 0 ? "all answers are as due" : wrong + " answers are not as due");
        if (wrong != 0) {
            System.exit(1);
        }
    }

    /** Lands everywhere, by rows wbsgo, sgowb, owbsg, bsgow and gowbs, all with one number. */
    static HexhavenIsle full(int number) {
        HexhavenIsle x = new HexhavenIsle();
        for (int i = 0; i < 25; i++) {
            x.land(i % 5, i / 5, "wbsgo".charAt((i % 5 + i / 5 * 2) % 5), number);
        }
        return x;
    }

    /**
     * Two players' beginning. The player 0 has houses at (1, 1), (1, 0), (2, 0) and at (1, 3), (1, 2), (2, 2),
     * the player 1 at (3, 1), (3, 0), (4, 0) and at (3, 3), (3, 2), (4, 2), each with a road to the corner 1.
     */
    static void beginTwo(HexhavenIsle x, int goal) {
        x.begin(2, goal);
        put(x, 1, 1, 0);
        put(x, 3, 1, 0);
        put(x, 3, 3, 0);
        put(x, 1, 3, 0);
    }

    /** On full(number): the player 0 begins with wood, brick, sheep, the player 1 with sheep, grain, ore. */
    static HexhavenIsle two(int number, int goal) {
        HexhavenIsle x = full(number);
        beginTwo(x, goal);
        return x;
    }

    /** A house with the road at the side of the same number. */
    static void put(HexhavenIsle x, int column, int row, int corner) {
        x.house(column, row, corner);
        x.road(column, row, corner);
    }

    static long next(long z) {
        return z * 48271 % 2147483647;
    }

    /** Rolls that sum, by a seed that brings it. */
    static void roll(HexhavenIsle x, int sum) {
        int z = 1;
        while (next(z) % 6 + next(next(z)) % 6 + 2 != sum) {
            z++;
        }
        x.seed(z);
        due(sum, x::roll);
    }

    /** A turn with that sum, and of no actions. */
    static void pass(HexhavenIsle x, int sum) {
        roll(x, sum);
        x.end();
    }

    /** The turns of all players, with that sum each. */
    static void round(HexhavenIsle x, int players, int sum) {
        for (int i = 0; i < players; i++) {
            pass(x, sum);
        }
    }

    /** Sets a seed behind which the next place among so many is that one. */
    static void pick(HexhavenIsle x, int count, int place) {
        int z = 1;
        while (next(z) % count != place) {
            z++;
        }
        x.seed(z);
    }

    /** The goods of a player, a number each. */
    static String all(HexhavenIsle x, int player) {
        StringBuilder told = new StringBuilder();
        for (char good : "wbsgo".toCharArray()) {
            told.append(told.length() == 0 ? "" : " ").append(x.has(player, good));
        }
        return told.toString();
    }

    /** All that can be asked of a game. */
    static String state(HexhavenIsle x, int players) {
        StringBuilder told = new StringBuilder();
        told.append(x.checksum()).append(x.phase()).append(x.thiefAt()).append(x.turn()).append(x.title('w'));
        for (int i = 0; i < 150; i++) {
            told.append(x.at(i % 5, i / 5 % 5, i / 25)).append(x.roadAt(i % 5, i / 5 % 5, i / 25));
        }
        for (int player = 0; player < players; player++) {
            for (char card : "kvmpr".toCharArray()) {
                told.append(x.cards(player, card));
            }
        }
        return told.toString();
    }

    /** Calls that throw, and change nothing. */
    static void refused(HexhavenIsle x, int players, Class<?> kind, Call call) {
        String before = state(x, players);
        due(kind, call);
        due(before, () -> state(x, players));
    }
}
