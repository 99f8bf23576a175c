import java.util.Map;
import java.util.function.Supplier;

/** The sentences of 'Terms' of titles, points, wins and ratings, and the sums over them, at their edges. */
public final class WinTest {
    private static final String GOODS = "wbsgo";

    public static void main(String[] args) {
        waysOfTheBeginning();
        seenPoints();
        waysFromFourToSix();
        waysThatAreCut();
        wayOfTwoOthers();
        wayRoundToAHouse();
        knightsOfThree();
        bothTitles();
        goals();
        goalByTitles();
        noWinInTurnsOfOthers();
        ratingsOfGames();
        ratingsOfThoseWhoPlay();
        ratingsAtTheirEnds();
        sums();
        Due.finish();
    }

    // ---- the longest way

    /** The roads of both houses may meet each other. */
    private static void waysOfTheBeginning() {
        HexhavenIsle x = Due.full(6);
        x.begin(2, 10);
        x.house(1, 1, 0);
        Due.due(0, () -> x.way(0));
        Due.due(1, () -> x.road(1, 1, 0));
        Due.put(x, 3, 1, 0);
        x.house(3, 3, 0);
        Due.due(1, () -> x.way(1));
        Due.due(1, () -> x.road(3, 3, 0));
        Due.due(2, () -> x.house(1, 1, 2));
        Due.due(2, () -> x.road(1, 1, 1));
        Due.due(2, () -> x.way(0));
        Due.due(1, () -> x.way(1));
        Due.due(-1, () -> x.title('w'));
        Due.due(true, x::isTrue);
    }

    /** A card of points is no point that is seen: not by houses and towns, nor with titles. */
    private static void seenPoints() {
        HexhavenIsle x = Stages.rich(10, 8);
        TurnTest.buyAt(x, 25, 14);
        TurnTest.buyAt(x, 24, 14);
        x.road(1, 1, 1);
        Due.due(3, () -> x.house(1, 1, 2));
        Stages.hand(x, 10023);
        Due.due(4, () -> x.town(1, 1, 0));
        Due.due(4, () -> x.points(0, true));
        Due.due(6, () -> x.points(0, false));
        Stages.hand(x, 33000);
        roads(x, "112", "113", "114");
        Due.due(6, () -> x.points(0, true));
        Due.due(8, () -> x.points(0, false));
        Due.due(2, () -> x.points(1, false));
    }

    /** 4 roads bring no title, 5 do, as many as those not, and one more does. */
    private static void waysFromFourToSix() {
        HexhavenIsle x = Stages.rich(10, 8);
        int[] due = {-1, -1, -1, 0, 0};
        for (int i = 0; i < 4; i++) {
            int side = i + 1;
            int holder = due[i];
            int points = holder == 0 ? 4 : 2;
            Due.due(i + 2, () -> x.road(1, 1, side));
            Due.due(holder, () -> x.title('w'));
            Due.due(points, () -> x.points(0, true));
        }
        x.end();
        Due.roll(x, 3);
        for (int i = 0; i < 4; i++) {
            int side = i + 1;
            Due.due(i + 2, () -> x.road(3, 1, side));
            Due.due(0, () -> x.title('w'));
        }
        Due.due(2, () -> x.points(1, true));
        Due.due(6, () -> x.road(3, 1, 5));
        Due.due(1, () -> x.title('w'));
        Due.due(4, () -> x.points(1, true));
        Due.due(2, () -> x.points(0, true));
        x.end();
        Due.roll(x, 3);
        Due.due(6, () -> x.road(1, 1, 5));
        Due.due(1, () -> x.title('w'));
        Due.due(true, x::isTrue);
    }

    /**
     * The player 1 has a way of so many roads from (1, 3, 1) to the east, the player 0 one of so many by
     * (1, 1, 0) and (2, 2, 1) to (2, 3, 0), where a house of 0 takes one road off the way of 1.
     */
    private static HexhavenIsle meeting(int own, int others) {
        HexhavenIsle x = Stages.rich(10, 8);
        x.end();
        Due.roll(x, 3);
        int[][] east = {{3, 3, 5}, {2, 3, 0}, {2, 3, 5}, {4, 3, 5}, {4, 3, 0}, {4, 3, 1}};
        for (int i = 0; i < others - 1; i++) {
            x.road(east[i][0], east[i][1], east[i][2]);
        }
        x.end();
        Due.roll(x, 3);
        int[][] south = {{1, 1, 1}, {2, 2, 0}, {2, 2, 1}, {1, 1, 5}, {1, 1, 4}, {1, 1, 3}};
        for (int i = 0; i < own - 1; i++) {
            x.road(south[i][0], south[i][1], south[i][2]);
        }
        Due.due(own, () -> x.way(0));
        Due.due(others, () -> x.way(1));
        return x;
    }

    private static void waysThatAreCut() {
        // own roads, the other's, the title ahead and behind, the other's way behind
        int[][] cases = {
            {4, 5, 1, -1, 4}, {4, 6, 1, 1, 5}, {4, 7, 1, 1, 6},
            {5, 5, 1, 0, 4}, {5, 6, 1, 1, 5}, {5, 7, 1, 1, 6},
            {6, 5, 0, 0, 4}, {6, 6, 1, 0, 5}, {6, 7, 1, 1, 6},
            {7, 6, 0, 0, 5}, {7, 7, 1, 0, 6}, {4, 4, -1, -1, 3}, {5, 4, 0, 0, 3}};
        for (int[] one : cases) {
            HexhavenIsle x = meeting(one[0], one[1]);
            Due.due(one[2], () -> x.title('w'));
            int points = x.points(0, true) + 1 + (one[3] == 0 ? 2 : 0) - (one[2] == 0 ? 2 : 0);
            Due.due(points, () -> x.house(2, 3, 0));
            Due.due(one[4], () -> x.way(1));
            Due.due(one[0], () -> x.way(0));
            Due.due(one[3], () -> x.title('w'));
            Due.due(one[3] == 1 ? 4 : 2, () -> x.points(1, true));
            Due.due(true, x::isTrue);
            // nor does the way grow together again by a town
            Stages.hand(x, 11023);
            x.town(2, 3, 0);
            Due.due(one[4], () -> x.way(1));
            Due.due(one[3], () -> x.title('w'));
            Due.due(true, x::isTrue);
            // by a road all ways are looked at anew
            x.road(1, 3, 1);
            Due.due(one[4], () -> x.way(1));
            Due.due(true, x::isTrue);
        }
        // who gets the longest alone behind that has it, of 5 or more
        HexhavenIsle x = meeting(4, 5);
        x.house(2, 3, 0);
        Due.due(-1, () -> x.title('w'));
        Due.due(5, () -> x.road(1, 1, 5));
        Due.due(0, () -> x.title('w'));
        Due.due(true, x::isTrue);
    }

    /** Who had the title is cut, and two others have as many: nobody has it, until one of both has more. */
    private static void wayOfTwoOthers() {
        HexhavenIsle x = threeWays();
        Due.due(1, () -> x.title('w'));
        Due.due(5, () -> x.way(0));
        Due.due(6, () -> x.way(1));
        Due.due(5, () -> x.way(2));
        Due.due(3, () -> x.house(1, 2, 2));
        Due.due(4, () -> x.way(1));
        Due.due(-1, () -> x.title('w'));
        for (int player = 0; player < 3; player++) {
            int p = player;
            Due.due(p == 0 ? 3 : 2, () -> x.points(p, true));
        }
        Due.due(true, x::isTrue);
        x.end();
        Due.roll(x, 3);
        x.end();
        Due.roll(x, 3);
        Due.due(6, () -> x.road(2, 4, 2));
        Due.due(2, () -> x.title('w'));
        Due.due(4, () -> x.points(2, true));
        Due.due(true, x::isTrue);
    }

    /** As ScoreTest.threeWithWays, in a game to 10, and the player 0 has a way of 5 roads, too. */
    private static HexhavenIsle threeWays() {
        HexhavenIsle x = Due.full(12);
        String[] lands = {"12w", "11b", "01s", "40g", "22w", "32b", "34w", "44b", "04s"};
        for (String land : lands) {
            x.land(land.charAt(0) - '0', land.charAt(1) - '0', land.charAt(2), 6);
        }
        x.land(4, 2, 'd', 0);
        x.begin(3, 10);
        Due.put(x, 1, 2, 0);
        x.house(0, 2, 4);
        x.road(0, 2, 3);
        x.house(0, 4, 4);
        x.road(0, 4, 3);
        Due.put(x, 3, 4, 2);
        Due.put(x, 2, 2, 2);
        Due.put(x, 4, 0, 0);
        Due.round(x, 6, 6);
        Due.roll(x, 3);
        roads(x, "121", "125", "020", "025");
        x.end();
        Due.roll(x, 3);
        roads(x, "022", "123", "122", "223");
        x.end();
        Due.roll(x, 3);
        roads(x, "042", "143", "142", "243");
        x.end();
        Due.roll(x, 3);
        return x;
    }

    private static void roads(HexhavenIsle x, String... sides) {
        for (String side : sides) {
            x.road(side.charAt(0) - '0', side.charAt(1) - '0', side.charAt(2) - '0');
        }
    }

    /** A way may begin and end at the house of another one, even round to the same one, but not go through it. */
    private static void wayRoundToAHouse() {
        HexhavenIsle x = Due.full(12);
        x.land(3, 1, 'w', 6);
        x.land(3, 0, 'b', 6);
        x.begin(2, 10);
        Due.put(x, 3, 1, 0);
        // at the corner 3 of (3, 1), with a road away from it
        x.house(3, 1, 3);
        x.road(3, 2, 1);
        Due.put(x, 0, 4, 3);
        Due.put(x, 0, 0, 5);
        Due.round(x, 8, 6);
        Due.roll(x, 3);
        int[] sides = {1, 2, 5, 4, 3};
        int[] due = {2, 3, 4, 5, 6};
        for (int i = 0; i < 5; i++) {
            int side = sides[i];
            int way = due[i];
            Due.due(way, () -> x.road(3, 1, side));
        }
        // with a road on from the corner 0 it were 7, could it go on at the house
        Due.due(6, () -> x.road(3, 0, 1));
        Due.due(true, x::isTrue);
        Due.due(0, () -> x.title('w'));
    }

    // ---- knights

    /** Of three players, the first one who played 3 has the title, until another one played more. */
    private static void knightsOfThree() {
        HexhavenIsle x = Due.full(12);
        String[] lands = {"11s", "10g", "20o", "31s", "30g", "40o", "33s", "32g", "42o"};
        for (String land : lands) {
            x.land(land.charAt(0) - '0', land.charAt(1) - '0', land.charAt(2), 6);
        }
        x.begin(3, 10);
        Due.put(x, 1, 1, 0);
        Due.put(x, 3, 1, 0);
        Due.put(x, 3, 3, 0);
        Due.put(x, 1, 4, 3);
        Due.put(x, 0, 4, 3);
        Due.put(x, 0, 2, 5);
        // a 6 ahead of each round brings a card for each; the title behind each turn, '-' for nobody
        String plays = "000" + "011" + "011" + "111" + "101" + "110";
        String titles = "---" + "---" + "---" + "-11" + "112" + "222";
        int[] played = new int[3];
        int left = 25;
        for (int i = 0; i < plays.length(); i++) {
            int player = i % 3;
            Due.due(player, x::turn);
            Due.roll(x, player == 0 ? 6 : 3);
            if (plays.charAt(i) == '1') {
                int count = ++played[player];
                Due.due(count, () -> x.play('k', 'w', 'w'));
                x.thief(x.thiefAt() == 44 ? 3 : 4, 4, -1);
            }
            if (i < 12) {
                TurnTest.buyAt(x, left--, 0);
            }
            int due = "012".indexOf(titles.charAt(i));
            Due.due(due, () -> x.title('k'));
            for (int k = 0; k < 3; k++) {
                int p = k;
                Due.due(p == due ? 4 : 2, () -> x.points(p, true));
            }
            Due.due(true, x::isTrue);
            x.end();
        }
    }

    /** Each of both titles is worth 2. */
    private static void bothTitles() {
        HexhavenIsle x = Stages.rich(10, 8);
        Stages.hand(x, 44433);
        roads(x, "111", "112", "113", "114");
        Due.due(4, () -> x.points(0, true));
        for (int i = 0; i < 3; i++) {
            TurnTest.buyAt(x, 25 - i, 0);
        }
        for (int i = 1; i <= 3; i++) {
            int count = i;
            x.end();
            Due.pass(x, 3);
            Due.roll(x, 3);
            Due.due(count, () -> x.play('k', 'w', 'w'));
            x.thief(count % 2 * 4, count % 2 * 4, -1);
            Due.due(count < 3 ? 4 : 6, () -> x.points(0, true));
            Due.due(count < 3 ? 4 : 6, () -> x.points(0, false));
        }
        Due.due(0, () -> x.title('w'));
        Due.due(0, () -> x.title('k'));
        Due.due(true, x::isTrue);
    }

    // ---- goals

    /** Each goal is reached by the call that brings the points, and by none ahead of it. */
    private static void goals() {
        for (int goal = 3; goal <= 10; goal++) {
            HexhavenIsle x = Stages.rich(goal, 8);
            Stages.hand(x, 99400);
            for (int side = 1; side <= 3; side++) {
                x.road(1, 1, side);
                x.road(1, 3, side);
            }
            String[] steps = {"h112", "h114", "h132", "t110", "t112", "t114", "t130", "v"};
            for (int points = 2; points < goal; points++) {
                String step = steps[points - 2];
                int due = points + 1;
                Stages.hand(x, step.charAt(0) == 'h' ? 11111 : step.charAt(0) == 't' ? 10023 : 111);
                Due.due('a', x::phase);
                Due.due(1500, () -> x.rating(0));
                build(x, step);
                Due.due(due, () -> x.points(0, false));
                Due.due(due == 10 ? 9 : due, () -> x.points(0, true));
            }
            Due.due('o', x::phase);
            Due.due(0, x::turn);
            Due.due(1516, () -> x.rating(0));
            Due.due(1484, () -> x.rating(1));
            Due.due(Due.NOT_NOW, x::end);
            Due.due(true, x::isTrue);
        }
    }

    private static void build(HexhavenIsle x, String step) {
        if (step.equals("v")) {
            TurnTest.buyAt(x, 25, 14);
            return;
        }
        int column = step.charAt(1) - '0';
        int row = step.charAt(2) - '0';
        int corner = step.charAt(3) - '0';
        Due.due(true, () -> (step.charAt(0) == 'h' ? x.house(column, row, corner) : x.town(column, row, corner)) >= 3);
    }

    /** A title wins by the road or the knight that brings it; in the goal ahead it does, in the one behind not. */
    private static void goalByTitles() {
        for (int goal = 3; goal <= 6; goal++) {
            HexhavenIsle x = Stages.rich(goal, 8);
            for (int side = 1; side <= 3; side++) {
                x.road(1, 1, side);
            }
            if (goal == 5) {
                x.house(1, 1, 2);
            }
            Due.due('a', x::phase);
            x.road(1, 1, 4);
            Due.due(goal < 6 ? 'o' : 'a', x::phase);
        }
        // a house that cuts brings the title and with it the goal
        HexhavenIsle x = Stages.rich(5, 8);
        x.end();
        Due.roll(x, 3);
        roads(x, "335", "230", "235", "435");
        Due.due(1, () -> x.title('w'));
        x.end();
        Due.roll(x, 3);
        roads(x, "111", "220", "221", "115");
        Due.due('a', x::phase);
        Due.due(5, () -> x.house(2, 3, 0));
        Due.due('o', x::phase);
        Due.due(0, x::turn);
    }

    /** The player whose way becomes the longest in another one's turn wins as the own turn begins, and not ahead. */
    private static void noWinInTurnsOfOthers() {
        int[][] roles = {{0, 1, 2}, {1, 2, 0}, {2, 0, 1}, {0, 2, 1}, {1, 0, 2}, {2, 1, 0}};
        for (int[] role : roles) {
            HexhavenIsle x = cutting(role);
            int cutter = role[0];
            int getter = role[2];
            Due.due(role[1], () -> x.title('w'));
            Due.due(3, () -> x.points(getter, false));
            for (int i = 0; i < 3 && x.turn() != cutter; i++) {
                Due.pass(x, 3);
            }
            Due.roll(x, 3);
            Due.due(3, () -> x.house(1, 2, 2));
            Due.due(getter, () -> x.title('w'));
            Due.due(5, () -> x.points(getter, false));
            for (int i = 0; i < 3 && (x.turn() + 1) % 3 != getter; i++) {
                Due.due('a', x::phase);
                x.end();
                Due.due('r', x::phase);
                Due.roll(x, 3);
            }
            Due.due('a', x::phase);
            Due.due(1500, () -> x.rating(getter));
            Due.due(getter, x::end);
            Due.due('o', x::phase);
            Due.due(getter, x::turn);
            Due.due(1532, () -> x.rating(getter));
            Due.due(Due.NOT_NOW, x::roll);
            Due.due(true, x::isTrue);
        }
    }

    /** Players of these roles: who cuts, whose way of 6 is cut, and who has a way of 5 and three houses. */
    private static HexhavenIsle cutting(int[] role) {
        HexhavenIsle x = Due.full(12);
        String[] lands = {"12w", "11b", "01s", "40g", "22w", "32b", "34w", "44b", "04s", "24g"};
        for (String land : lands) {
            x.land(land.charAt(0) - '0', land.charAt(1) - '0', land.charAt(2), 6);
        }
        x.land(4, 2, 'd', 0);
        x.harbour(3, 4, 2, '?');
        x.begin(3, 5);
        String[] firsts = {"1200", "0243", "0443"};
        String[] seconds = {"4000", "2222", "3422"};
        for (int i = 0; i < 6; i++) {
            String s = (i < 3 ? firsts : seconds)[roleOf(role, x.turn())];
            x.house(s.charAt(0) - '0', s.charAt(1) - '0', s.charAt(2) - '0');
            x.road(s.charAt(0) - '0', s.charAt(1) - '0', s.charAt(3) - '0');
        }
        Due.round(x, 9, 6);
        // the way of 6 is there ahead of that of 5
        for (int i = 0; i < 6; i++) {
            Due.roll(x, 3);
            int what = roleOf(role, x.turn());
            if (i < 3 && what == 0) {
                roads(x, "121");
            } else if (i < 3 && what == 1) {
                roads(x, "022", "123", "122", "223");
            } else if (i >= 3 && what == 2) {
                roads(x, "042", "143", "142", "243");
                thirdHouse(x);
            }
            x.end();
        }
        return x;
    }

    private static int roleOf(int[] role, int player) {
        return role[0] == player ? 0 : role[1] == player ? 1 : 2;
    }

    private static void thirdHouse(HexhavenIsle x) {
        for (char missing : "wbsg".toCharArray()) {
            for (char give : GOODS.toCharArray()) {
                if (x.has(x.turn(), missing) == 0 && x.has(x.turn(), give) > 3) {
                    x.bank(give, missing);
                }
            }
        }
        Due.due(true, () -> x.house(1, 4, 3) >= 3);
    }

    // ---- ratings

    /** A twenty-fifth of the difference is cut toward 0, whoever wins. */
    private static void ratingsOfGames() {
        HexhavenIsle x = Due.full(12);
        String winners = "0001011100000001111111010011";
        for (char winner : winners.toCharArray()) {
            int w = winner - '0';
            int won = x.rating(w);
            int lost = x.rating(1 - w);
            int due = Math.min(31, Math.max(1, 16 + (lost - won) / 25));
            ScoreTest.quickWin(x, w);
            Due.due(won + due, () -> x.rating(w));
            Due.due(lost - due, () -> x.rating(1 - w));
            Due.due(1500, () -> x.rating(2));
            Due.due(1500, () -> x.rating(3));
        }
    }

    /** Those who are not in the game pay nothing, but keep what they have. */
    private static void ratingsOfThoseWhoPlay() {
        for (int players = 2; players <= 4; players++) {
            HexhavenIsle x = Due.full(12);
            x.begin(players, 3);
            int[][] corners = {{0, 4, 3}, {4, 4, 3}, {0, 2, 5}, {0, 0, 0}, {4, 1, 1}, {4, 0, 0}, {3, 3, 0}, {2, 0, 2}};
            for (int i = 0; i < 2 * players; i++) {
                int[] c = corners[i < players ? i : 8 - 2 * players + i];
                Due.put(x, c[0], c[1], c[2]);
            }
            Due.roll(x, 3);
            TurnTest.buyAt(x, 25, 14);
            Due.due('o', x::phase);
            for (int i = 0; i < 4; i++) {
                int player = i;
                int due = i == 0 ? 1500 + 16 * (players - 1) : i < players ? 1484 : 1500;
                Due.due(due, () -> x.rating(player));
            }
            // the next game brings none by its beginning
            x.begin(4, 10);
            Due.due(1484, () -> x.rating(1));
        }
    }

    /** 1 at least is given, and 31 at most: in 22 games of four, within 512 calls. */
    private static void ratingsAtTheirEnds() {
        HexhavenIsle x = new HexhavenIsle();
        x.land(1, 1, 's', 12);
        x.land(2, 1, 'g', 12);
        x.land(2, 2, 'o', 12);
        x.land(1, 2, 'w', 12);
        for (int game = 0; game < 20; game++) {
            quickWinOfFour(x, 0);
        }
        // 400 above the others, and 16 less a twenty-fifth of that were none
        rated(x, 1800, 1400, 1400, 1400);
        quickWinOfFour(x, 0);
        rated(x, 1803, 1399, 1399, 1399);
        // 404 above the winner, and 16 more than a twenty-fifth of that were 32
        quickWinOfFour(x, 1);
        rated(x, 1772, 1462, 1383, 1383);
    }

    private static void quickWinOfFour(HexhavenIsle x, int winner) {
        String[] corners = {"110", "114", "210", "212", "222", "224", winner == 0 ? "124" : "112",
            winner == 0 ? "112" : "124"};
        x.begin(4, 3);
        for (String c : corners) {
            Due.put(x, c.charAt(0) - '0', c.charAt(1) - '0', c.charAt(2) - '0');
        }
        if (winner == 1) {
            Due.pass(x, 3);
        }
        Due.roll(x, 3);
        TurnTest.buyAt(x, 25, 14);
    }

    private static void rated(HexhavenIsle x, int... ratings) {
        for (int i = 0; i < 4; i++) {
            int player = i;
            Due.due(ratings[player], () -> x.rating(player));
        }
    }

    // ---- sums

    private static void sums() {
        for (Map.Entry<String, Supplier<HexhavenIsle>> stage : Stages.all().entrySet()) {
            HexhavenIsle x = stage.getValue().get();
            Due.due(true, x::isTrue);
            int players = 0;
            long sum = 7;
            int points = 0;
            while (players < 9 && isPlayer(x, players)) {
                int player = players++;
                points += x.points(player, false);
                sum = 31 * sum + x.points(player, false);
                for (char good : GOODS.toCharArray()) {
                    sum = 31 * sum + x.has(player, good);
                }
                sum = 31 * sum + x.way(player);
            }
            int z = x.seed(1);
            x.seed(z);
            long due = 31 * (31 * sum + z) + x.phase();
            Due.due(due, x::checksum);
            Object mean = players == 0 ? (Object) ArithmeticException.class : (Object) ((double) points / players);
            Due.due(mean, x::meanPoints);
        }
        // z in full is in it, in the least and in the greatest one
        HexhavenIsle x = Due.two(6, 10);
        long first = x.checksum();
        x.seed(2147483646);
        long last = x.checksum();
        Due.due(31L * 2147483645, () -> last - first);
    }

    private static boolean isPlayer(HexhavenIsle x, int player) {
        return Twin.answer(x, y -> y.goods(player)) instanceof Integer;
    }
}
