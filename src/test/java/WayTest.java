import java.util.ArrayList;
import java.util.HashSet;
import java.util.List;
import java.util.Set;

/** The longest ways of roads of many shapes, held against all that go over own roads, none of them twice. */
public final class WayTest {
    private static final int HOUSE = PlainIsle.point(1, 1, 0);
    private static final Set<Integer> SECOND = PlainIsle.pair(1, 3, 0);

    public static void main(String[] args) {
        snakes();
        fifteen();
        rings();
        grown();
        Due.finish();
    }

    // ---- all ways, by the points of a plane

    static int longest(HexhavenIsle x, int player) {
        Set<Set<Integer>> roads = new HashSet<>();
        Set<Integer> closed = new HashSet<>();
        for (int i = 0; i < 150; i++) {
            if (x.roadAt(i % 5, i / 5 % 5, i / 25) == player) {
                roads.add(PlainIsle.pair(i % 5, i / 5 % 5, i / 25));
            }
            int built = x.at(i % 5, i / 5 % 5, i / 25);
            if (built >= 0 && built % 10 != player) {
                closed.add(PlainIsle.point(i % 5, i / 5 % 5, i / 25));
            }
        }
        int most = 0;
        for (Set<Integer> road : List.copyOf(roads)) {
            for (int end : road) {
                most = Math.max(most, go(roads, closed, end));
            }
        }
        return most;
    }

    /** The longest way from there over roads that are left. */
    private static int go(Set<Set<Integer>> roads, Set<Integer> closed, int from) {
        int most = 0;
        for (Set<Integer> road : List.copyOf(roads)) {
            if (road.contains(from)) {
                int to = other(road, from);
                roads.remove(road);
                most = Math.max(most, 1 + (closed.contains(to) ? 0 : go(roads, closed, to)));
                roads.add(road);
            }
        }
        return most;
    }

    private static int other(Set<Integer> road, int end) {
        for (int point : road) {
            if (point != end) {
                return point;
            }
        }
        return -1;
    }

    // ---- roads of the player 0

    /** A road at that side, by the goods of both players if there are none. */
    private static Object build(HexhavenIsle x, int side) {
        if (x.has(0, 'w') == 0 || x.has(0, 'b') == 0) {
            Stages.hand(x, 77000);
        }
        return x.road(side % 5, side / 5 % 5, side / 25);
    }

    private static Set<Integer> pair(int side) {
        return PlainIsle.pair(side % 5, side / 5 % 5, side / 25);
    }

    /** The sides at which the player 0 may put a road on from that point, each one once. */
    private static List<Integer> sidesFrom(HexhavenIsle x, int point) {
        List<Integer> sides = new ArrayList<>();
        Set<Set<Integer>> seen = new HashSet<>();
        for (int i = 0; i < 150; i++) {
            boolean isThere = point < 0 || pair(i).contains(point);
            if (isThere && x.mayRoad(0, i % 5, i / 5 % 5, i / 25) && seen.add(pair(i))) {
                sides.add(i);
            }
        }
        return sides;
    }

    /** From the house over the corner 1 of (1, 1) five roads on, to the left or to the right each time. */
    private static void snakes() {
        for (int turns = 0; turns < 32; turns++) {
            HexhavenIsle x = Stages.rich(10, 8);
            int end = PlainIsle.point(1, 1, 1);
            for (int i = 0; i < 5; i++) {
                List<Integer> sides = sidesFrom(x, end);
                if (!sides.isEmpty()) {
                    int side = sides.get((turns >> i & 1) % sides.size());
                    end = other(pair(side), end);
                    Object way = build(x, side);
                    Due.due(longest(x, 0), () -> way);
                    Due.due(longest(x, 0), () -> x.way(0));
                    Due.due(1, () -> x.way(1));
                    Due.due(true, x::isTrue);
                }
            }
        }
    }

    /** Fifteen roads in a row, through the second house: the title from the fifth one on, and no sixteenth one. */
    private static void fifteen() {
        HexhavenIsle x = Stages.rich(10, 8);
        List<Integer> row = new ArrayList<>();
        Set<Integer> passed = new HashSet<>(Set.of(HOUSE, PlainIsle.point(1, 1, 1)));
        Due.due(true, () -> isRow(x, row, passed, PlainIsle.point(1, 1, 1), 14));
        Due.due(13, row::size);
        for (int side : row) {
            build(x, side);
            Due.due(longest(x, 0), () -> x.way(0));
            Due.due(x.way(0) < 5 ? -1 : 0, () -> x.title('w'));
            Due.due(true, x::isTrue);
        }
        Due.due(15, () -> x.way(0));
        Due.due(Due.NOT_SO, () -> build(x, sidesFrom(x, -1).get(0)));
    }

    /** Finds so many sides one behind the other, the second road of the beginning among them. */
    private static boolean isRow(HexhavenIsle x, List<Integer> row, Set<Integer> passed, int from, int count) {
        if (count == 0) {
            return passed.containsAll(SECOND);
        }
        boolean isOver = SECOND.contains(from) && !passed.containsAll(SECOND);
        for (int side = 0; side < 150; side++) {
            int to = pair(side).contains(from) ? other(pair(side), from) : -1;
            boolean isOpen = isOver ? SECOND.contains(to) : SECOND.contains(to) || to >= 0 && isBare(x, to);
            if (isOpen && passed.add(to)) {
                if (!isOver) {
                    row.add(side);
                }
                if (isRow(x, row, passed, to, count - 1)) {
                    return true;
                }
                if (!isOver) {
                    row.remove(row.size() - 1);
                }
                passed.remove(to);
            }
        }
        return false;
    }

    /** Neither a house nor a road is at that point. */
    private static boolean isBare(HexhavenIsle x, int point) {
        for (int i = 0; i < 150; i++) {
            boolean isAt = PlainIsle.point(i % 5, i / 5 % 5, i / 25) == point && x.at(i % 5, i / 5 % 5, i / 25) >= 0;
            boolean isBy = pair(i).contains(point) && x.roadAt(i % 5, i / 5 % 5, i / 25) >= 0;
            if (isAt || isBy) {
                return false;
            }
        }
        return true;
    }

    /** Round one land, with a road away from it, and round two lands beside each other: no road is gone twice. */
    private static void rings() {
        HexhavenIsle x = Stages.rich(10, 8);
        rise(x, "111 112 113 114 115", 2, 3, 4, 5, 6);
        // from the corner 3 to the other house, with its road to the east, and two to the west
        rise(x, "121 122 123", 8, 8, 9);
        // another row away from the ring, from the corner 5, is no more: the ring is gone round but in part then
        rise(x, "103 104", 9, 9);
        HexhavenIsle y = Stages.rich(10, 8);
        rise(y, "111 112 113 114 115 215 210 211 212 213", 2, 3, 4, 5, 6, 7, 8, 9, 10, 11);
        Due.due(11, () -> y.way(0));
        // both ends are at corners that have roads all round, so that one more elsewhere makes it no longer
        rise(y, "131", 11);
    }

    private static void rise(HexhavenIsle x, String sides, int... ways) {
        String[] told = sides.split(" ");
        for (int i = 0; i < told.length; i++) {
            int side = told[i].charAt(0) - '0' + 5 * (told[i].charAt(1) - '0') + 25 * (told[i].charAt(2) - '0');
            int way = ways[i];
            Due.due(way, () -> build(x, side));
            Due.due(longest(x, 0), () -> x.way(0));
            Due.due(true, x::isTrue);
        }
    }

    /** Fifteen roads here and there. */
    private static void grown() {
        for (int island = 0; island < 150; island++) {
            HexhavenIsle x = Stages.rich(10, 8);
            long z = 7 + island;
            for (int i = 0; i < 13; i++) {
                z = Due.next(z);
                List<Integer> sides = sidesFrom(x, -1);
                int side = sides.get((int) (z % sides.size()));
                build(x, side);
                Due.due(longest(x, 0), () -> x.way(0));
            }
            Due.due(true, x::isTrue);
            Due.due(Due.NOT_SO, () -> build(x, sidesFrom(x, -1).get(0)));
        }
    }
}
