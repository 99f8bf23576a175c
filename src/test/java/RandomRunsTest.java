import java.lang.reflect.InvocationTargetException;
import java.lang.reflect.Method;
import java.lang.reflect.Modifier;
import java.util.ArrayList;
import java.util.List;
import java.util.Random;
import java.util.TreeMap;

/** Plays many games, sensible and senseless calls mixed, and holds every answer against PlainIsle's. */
public final class RandomRunsTest {
    private static final int RUNS = 60;
    private static final int CALLS = 800;

    private final Random random;
    private final HexhavenIsle isle = new HexhavenIsle();
    private final PlainIsle plain = new PlainIsle();
    private final List<String> log = new ArrayList<>();
    private final TreeMap<String, Integer> seen;

    private static final List<Method> FACE = new ArrayList<>();

    private RandomRunsTest(long seed, TreeMap<String, Integer> seen) {
        this.random = new Random(seed);
        this.seen = seen;
    }

    public static void main(String[] args) throws Exception {
        for (Method m : HexhavenIsle.class.getDeclaredMethods()) {
            if (Modifier.isPublic(m.getModifiers())) {
                FACE.add(m);
            }
        }
        FACE.sort((a, b) -> a.getName().compareTo(b.getName()));
        TreeMap<String, Integer> seen = new TreeMap<>();
        int runs = args.length > 0 ? Integer.parseInt(args[0]) : RUNS;
        for (int run = 0; run < runs; run++) {
            RandomRunsTest test = new RandomRunsTest(run, seen);
            try {
                test.play(run);
            } catch (IllegalStateException e) {
                System.out.println("run " + run + ": " + e.getMessage());
                int from = Math.max(0, test.log.size() - 12);
                test.log.subList(from, test.log.size()).forEach(System.out::println);
                System.exit(1);
            }
        }
        if (args.length > 0) {
            seen.forEach((k, v) -> System.out.println(k + " " + v));
        }
        String[] due = {"house", "road", "town", "roll", "lose", "thief", "end", "bank", "offer", "take", "buy", "play"};
        for (String name : due) {
            if (seen.getOrDefault(name + " answers", 0) < 50 || seen.getOrDefault(name + " throws", 0) < 10) {
                System.out.println("the runs come too rarely by " + name);
                System.exit(1);
            }
        }
        for (String what : new String[] {"phase o", "title w", "title k", "bank is short", "lost way"}) {
            if (seen.getOrDefault(what, 0) < 1) {
                System.out.println("the runs come too rarely by " + what);
                System.exit(1);
            }
        }
    }

    private void play(int run) throws Exception {
        island();
        boolean isStuck = false;
        for (int i = 0; i < CALLS && !isStuck; i++) {
            int before = plain.wayTitle;
            if (random.nextInt(8) == 0) {
                senseless();
            } else {
                sensible();
            }
            both("checksum");
            both("phase");
            both("title", 'w');
            both("title", 'k');
            if (!isle.isTrue()) {
                throw new IllegalStateException("isTrue() is false");
            }
            if (i % 100 == 99) {
                askAll();
            }
            note(before);
            isStuck = plain.phase == 'h' && answer("advise", plain, 'p') instanceof Class;
        }
        askAll();
    }

    private void note(int before) {
        count(plain.phase == 'o', "phase o");
        count(plain.wayTitle >= 0, "title w");
        count(plain.knightTitle >= 0, "title k");
        count(before >= 0 && plain.wayTitle == -1 && plain.phase != 'h', "lost way");
        for (int left : plain.bankGoods) {
            count(left == 0, "bank is short");
        }
    }

    private void count(boolean is, String what) {
        if (is) {
            seen.merge(what, 1, Integer::sum);
        }
    }

    private void island() throws Exception {
        int[] numbers = {2, 3, 4, 5, 6, 8, 9, 10, 11, 12};
        int unlike = 1 + random.nextInt(10);
        int share = 3 + random.nextInt(8);
        for (int i = 0; i < 25; i++) {
            char kind = "wbsgowbsgowbsgod".charAt(random.nextInt(16));
            if (random.nextInt(10) < share) {
                both("land", i % 5, i / 5, kind, numbers[(random.nextInt(unlike) + 4) % 10]);
            }
        }
        int harbours = random.nextInt(20);
        for (int i = 0; i < harbours; i++) {
            both("harbour", random.nextInt(5), random.nextInt(5), random.nextInt(6), "wbsgo??-".charAt(random.nextInt(8)));
        }
        both("seed", 1 + random.nextInt(2147483646));
        begin();
    }

    private void begin() throws Exception {
        both("begin", 2 + random.nextInt(3), 3 + random.nextInt(8));
    }

    private int five() {
        return random.nextInt(5);
    }

    private int six() {
        return random.nextInt(6);
    }

    private char good() {
        return "wbsgo".charAt(five());
    }

    private void sensible() throws Exception {
        switch (plain.phase) {
            case 'h' -> putHouse();
            case 'w' -> putAround("road");
            case 'r' -> both("roll");
            case 'l' -> loseHalf();
            case 't' -> moveThief();
            case 'a' -> act();
            default -> {
                if (random.nextInt(20) == 0) {
                    both("land", five(), five(), "wbsgod-".charAt(random.nextInt(7)), 2 + random.nextInt(4));
                }
                if (random.nextInt(3) == 0) {
                    begin();
                }
            }
        }
    }

    private void putHouse() throws Exception {
        if (random.nextInt(3) == 0) {
            both("house", five(), five(), six());
            return;
        }
        Object advice = both("advise", "pvn".charAt(random.nextInt(3)));
        if (advice instanceof Integer) {
            int spot = (Integer) advice;
            both("house", spot / 100, spot / 10 % 10, spot % 10);
        }
    }

    private void putAround(String name) throws Exception {
        List<int[]> fits = new ArrayList<>();
        for (int i = 0; i < 150; i++) {
            int c = i % 5;
            int r = i / 5 % 5;
            int k = i / 25;
            boolean at = plain.phase != 'w' || PlainIsle.pair(c, r, k).contains(plain.lastHouse);
            boolean may = name.equals("road") ? plain.mayRoad(plain.turn, c, r, k) && at
                    : name.equals("house") ? plain.mayHouse(plain.turn, c, r, k) : plain.at(c, r, k) == plain.turn;
            if (may) {
                fits.add(new int[] {c, r, k});
            }
        }
        if (!fits.isEmpty()) {
            int[] one = fits.get(random.nextInt(fits.size()));
            both(name, one[0], one[1], one[2]);
        }
    }

    private void moveThief() throws Exception {
        int c = five();
        int r = five();
        List<Integer> victims = new ArrayList<>(plain.robbable(c, r));
        if (random.nextInt(6) == 0 || !plain.isLand(c, r)) {
            both("thief", c, r, random.nextInt(plain.players + 1) - 1);
        } else {
            both("thief", c, r, victims.isEmpty() ? -1 : victims.get(random.nextInt(victims.size())));
        }
    }

    private void loseHalf() throws Exception {
        for (int p = 0; p < plain.players; p++) {
            int due = plain.goods(p) / 2;
            int[] digits = new int[5];
            for (int tries = 0; tries < 1000 && due > 0; tries++) {
                int g = five();
                if (digits[g] < 9 && digits[g] < plain.goods[p][g]) {
                    digits[g]++;
                    due--;
                }
            }
            int told = 0;
            for (int d : digits) {
                told = told * 10 + d;
            }
            both("lose", p, told);
        }
    }

    private void act() throws Exception {
        int[] own = plain.goods[plain.turn];
        boolean isRoad = plain.freeRoads > 0 || own[0] > 0 && own[1] > 0;
        boolean isHouse = own[0] > 0 && own[1] > 0 && own[2] > 0 && own[3] > 0;
        boolean isTown = own[3] > 1 && own[4] > 2;
        boolean isCard = own[2] > 0 && own[3] > 0 && own[4] > 0;
        int dice = random.nextInt(20);
        if (dice < 2) {
            playOne();
        } else if (isTown && dice < 10) {
            putAround("town");
        } else if (isHouse && dice < 10) {
            putAround("house");
        } else if (isRoad && dice < 12) {
            putAround("road");
        } else if (isCard && dice < 14) {
            both("buy");
        } else if (dice < 16 && plain.goods(plain.turn) > 3 + random.nextInt(4)) {
            bankSurplus();
        } else if (dice == 16) {
            trade();
        } else if (dice == 17) {
            anyBuilding();
        } else {
            both("end");
        }
    }

    private void anyBuilding() throws Exception {
        String[] names = {"road", "house", "town", "buy", "advise"};
        switch (names[five()]) {
            case "buy" -> both("buy");
            case "advise" -> both("advise", "pvn".charAt(random.nextInt(3)));
            default -> putAround(names[random.nextInt(3)]);
        }
    }

    private void bankSurplus() throws Exception {
        int most = 0;
        int[] own = plain.goods[plain.turn];
        for (int g = 0; g < 5; g++) {
            most = own[g] > own[most] ? g : most;
        }
        both("bank", "wbsgo".charAt(most), good());
    }

    private void playOne() throws Exception {
        for (char c : "kmpr".toCharArray()) {
            if (plain.cards[plain.turn]["kvmpr".indexOf(c)] > 0 && random.nextBoolean()) {
                both("play", c, good(), good());
            }
        }
    }

    private void trade() throws Exception {
        int[] one = {10000, 1000, 100, 10, 1};
        int give = one[five()] * (1 + random.nextInt(2)) + (random.nextInt(4) == 0 ? one[five()] : 0);
        both("offer", give, one[five()]);
        if (random.nextInt(3) > 0) {
            both("take", random.nextInt(plain.players));
        }
    }

    private void senseless() throws Exception {
        Method m = FACE.get(random.nextInt(FACE.size()));
        boolean isRare = m.getName().equals("end") || m.getName().equals("begin") || m.getName().equals("seed");
        if (isRare && random.nextInt(4) > 0) {
            return;
        }
        Class<?>[] types = m.getParameterTypes();
        Object[] args = new Object[types.length];
        for (int i = 0; i < types.length; i++) {
            args[i] = types[i] == char.class ? (Object) anyChar()
                    : types[i] == boolean.class ? (Object) random.nextBoolean() : (Object) anyInt();
        }
        both(m.getName(), args);
    }

    private char anyChar() {
        return random.nextInt(12) == 0 ? (char) random.nextInt(300) : "-wbsgod?kvmprn".charAt(random.nextInt(14));
    }

    private int anyInt() {
        int[] odd = {-1, 5, 6, 7, 25, 99999, 100000, Integer.MAX_VALUE, Integer.MIN_VALUE, -2, 11, 10100, 2147483646};
        return random.nextInt(8) == 0 ? odd[random.nextInt(odd.length)] : random.nextInt(5);
    }

    private void askAll() throws Exception {
        for (int i = 0; i < 150; i++) {
            int c = i % 5;
            int r = i / 5 % 5;
            int k = i / 25;
            both("at", c, r, k);
            both("roadAt", c, r, k);
            both("pips", c, r, k);
            for (int p = 0; p < plain.players; p++) {
                both("mayHouse", p, c, r, k);
                both("mayRoad", p, c, r, k);
            }
        }
        for (int p = -1; p < 5; p++) {
            for (char g : "wbsgox".toCharArray()) {
                both("has", p, g);
                both("rate", p, g);
                both("expects", p, g);
                both("left", g);
            }
            for (char c : "kvmprx".toCharArray()) {
                both("cards", p, c);
            }
            both("points", p, true);
            both("points", p, false);
            both("goods", p);
            both("way", p);
            both("rating", p);
        }
        for (char worth : "pvnx".toCharArray()) {
            both("advise", worth);
        }
        both("touching");
        both("thiefAt");
        both("turn");
        both("landShare");
        both("meanPoints");
    }

    /** Calls both, and fails if they answer unlike. */
    private Object both(String name, Object... args) throws Exception {
        Object got = answer(name, isle, args);
        Object want = answer(name, plain, args);
        StringBuilder line = new StringBuilder(name);
        for (Object arg : args) {
            line.append(' ').append(arg);
        }
        line.append(" = ").append(got);
        log.add(line.toString());
        seen.merge(name + (got instanceof Class ? " throws" : " answers"), 1, Integer::sum);
        if (!got.equals(want)) {
            throw new IllegalStateException(line + ", due is " + want);
        }
        return got;
    }

    private static Object answer(String name, Object on, Object... args) throws Exception {
        Method one = null;
        for (Method m : FACE) {
            one = m.getName().equals(name) ? m : one;
        }
        try {
            return on.getClass().getDeclaredMethod(name, one.getParameterTypes()).invoke(on, args);
        } catch (InvocationTargetException e) {
            return e.getCause().getClass();
        }
    }
}
