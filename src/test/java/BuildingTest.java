/** Promises 10 to 12, 26 to 31 and 35: houses, roads, towns, the longest way and its title, and advice. */
public final class BuildingTest {
    public static void main(String[] args) {
        house();
        housesNextToEachOther();
        road();
        roadsLieAtLands();
        roadsEndAtOthers();
        roadsRunOut();
        town();
        housesRunOut();
        townsRunOut();
        townsOfTheOtherRunOut();
        waysRoundALand();
        titleOfTheWay();
        titleStaysWhenEven();
        mayHouse();
        mayRoad();
        at();
        adviceAtTheBeginning();
        adviceByTens();
        adviceKnowsEveryHouse();
        adviceInActions();
        Due.finish();
    }

    private static void house() {
        HexhavenIsle x = Due.two(6, 10);
        Due.due(Due.NO_INDEX, () -> x.house(0, 0, 6));
        Due.due(Due.NO_INDEX, () -> x.house(0, 5, 0));
        Due.due(Due.NOT_NOW, () -> x.house(1, 1, 2));
        Due.roll(x, 3);
        // 1 wood, brick and sheep: a road, and no goods for more
        Due.refused(x, 2, Due.NOT_SO, () -> x.house(1, 1, 2));
        Due.due(2, () -> x.road(1, 1, 1));
        Due.due(true, () -> x.mayHouse(0, 1, 1, 2));
        Due.refused(x, 2, Due.NOT_SO, () -> x.house(1, 1, 2));
        x.end();
        Due.pass(x, 6);
        Due.roll(x, 3);
        Due.due("1 2 3 1 0", () -> Due.all(x, 0));
        Due.refused(x, 2, Due.NOT_SO, () -> x.house(4, 4, 3));
        Due.refused(x, 2, Due.NOT_SO, () -> x.house(1, 1, 1));
        Due.refused(x, 2, Due.NOT_SO, () -> x.house(1, 1, 0));
        Due.due(3, () -> x.house(1, 1, 2));
        Due.due("0 1 2 0 0", () -> Due.all(x, 0));
        Due.due(18, () -> x.left('w'));
        Due.due(0, () -> x.at(2, 2, 0));
        Due.due(true, x::isTrue);
    }

    private static void housesNextToEachOther() {
        HexhavenIsle x = new HexhavenIsle();
        // between the lands, and east of both, lies sea: (1, 1), (2, 1) and (2, 2) have a side of sea
        x.land(1, 1, 'w', 6);
        x.land(2, 2, 'b', 6);
        x.land(4, 4, 's', 6);
        x.begin(2, 3);
        Due.due(Due.NOT_SO, () -> x.house(0, 4, 3));
        Due.put(x, 1, 1, 0);
        for (int corner : new int[] {0, 1, 5}) {
            Due.due(false, () -> x.mayHouse(1, 1, 1, corner));
            Due.refused(x, 2, Due.NOT_SO, () -> x.house(1, 1, corner));
        }
        for (int corner : new int[] {2, 3, 4}) {
            Due.due(true, () -> x.mayHouse(1, 1, 1, corner));
        }
        HexhavenIsle y = new HexhavenIsle();
        // a side with sea at both of its places is a side between two corners all the same
        y.land(2, 1, 'w', 6);
        y.land(2, 3, 'b', 6);
        y.land(0, 0, 'b', 6);
        y.begin(2, 3);
        y.house(2, 1, 3);
        y.road(2, 1, 3);
        Due.due(true, () -> y.mayHouse(0, 2, 3, 5));
        Due.due(false, () -> y.mayHouse(0, 2, 3, 0) && y.at(2, 2, 3) == -1 && y.at(2, 1, 3) == -1);
        HexhavenIsle z = new HexhavenIsle();
        z.land(1, 2, 'w', 6);
        z.land(3, 2, 'b', 6);
        z.land(0, 0, 'b', 6);
        z.land(2, 4, 'b', 6);
        z.begin(2, 3);
        Due.put(z, 1, 2, 1);
        Due.due(false, () -> z.mayHouse(0, 1, 2, 2));
        Due.due(true, () -> z.mayHouse(0, 3, 2, 5));
        // (2, 2) has a corner of (1, 2) and one of (2, 1): the side from (2, 2, 5) to (2, 2, 0)
        Due.due(false, () -> z.mayHouse(0, 2, 2, 0));
        HexhavenIsle v = new HexhavenIsle();
        v.land(1, 2, 'w', 6);
        v.land(2, 1, 'b', 6);
        v.land(4, 4, 'b', 6);
        v.begin(2, 3);
        // the corners 5 and 0 of (2, 2) lie at one land each, the side between them at none
        v.house(1, 2, 1);
        Due.due(Due.NOT_SO, () -> v.road(2, 2, 5));
        v.road(1, 2, 0);
        Due.due(false, () -> v.mayHouse(1, 2, 2, 0));
        Due.due(Due.NOT_SO, () -> v.house(2, 1, 4));
    }

    private static void road() {
        HexhavenIsle x = Due.two(6, 10);
        Due.due(Due.NO_INDEX, () -> x.road(0, 0, -1));
        Due.due(Due.NO_INDEX, () -> x.road(0, 0, 6));
        Due.due(Due.NO_INDEX, () -> x.road(-1, 0, 0));
        Due.due(Due.NOT_NOW, () -> x.road(1, 1, 1));
        Due.roll(x, 3);
        Due.refused(x, 2, Due.NOT_SO, () -> x.road(1, 1, 0));
        Due.refused(x, 2, Due.NOT_SO, () -> x.road(4, 4, 0));
        Due.due(2, () -> x.road(1, 1, 1));
        Due.due("0 0 1 0 0", () -> Due.all(x, 0));
        Due.due(19, () -> x.left('w'));
        Due.due(19, () -> x.left('b'));
        Due.due(0, () -> x.roadAt(2, 1, 4));
        Due.refused(x, 2, Due.NOT_SO, () -> x.road(1, 1, 2));
    }

    private static void roadsLieAtLands() {
        HexhavenIsle x = new HexhavenIsle();
        x.land(0, 0, 'w', 6);
        x.land(2, 2, 'd', 6);
        x.land(4, 4, 's', 6);
        x.begin(2, 10);
        x.house(2, 2, 0);
        // the side between two places of sea
        Due.due(false, () -> x.mayRoad(0, 1, 1, 1));
        Due.refused(x, 2, Due.NOT_SO, () -> x.road(1, 1, 1));
        Due.due(1, () -> x.road(1, 1, 2));
        Due.due(0, () -> x.roadAt(2, 2, 5));
    }

    private static void roadsEndAtOthers() {
        HexhavenIsle x = Due.full(6);
        x.begin(2, 10);
        Due.put(x, 1, 1, 0);
        // at the corner 2 of (1, 1)
        Due.put(x, 2, 2, 0);
        Due.put(x, 4, 4, 0);
        Due.put(x, 1, 3, 0);
        Due.pass(x, 3);
        Due.pass(x, 3);
        Due.round(x, 2, 6);
        Due.roll(x, 3);
        Due.due(true, () -> x.mayRoad(0, 1, 1, 1));
        Due.due(2, () -> x.road(1, 1, 1));
        Due.due(false, () -> x.mayRoad(0, 1, 1, 2));
        Due.refused(x, 2, Due.NOT_SO, () -> x.road(1, 1, 2));
        Due.due(true, () -> x.mayRoad(1, 1, 1, 2));
        Due.due(0, () -> x.roadAt(2, 1, 4));
    }

    private static void roadsRunOut() {
        HexhavenIsle x = Due.full(12);
        x.land(1, 1, 'w', 6);
        x.land(1, 0, 'b', 6);
        Due.beginTwo(x, 10);
        for (int count = 2; count < 15; count++) {
            Due.roll(x, 6);
            Due.due(true, () -> roadAnywhere(x));
            x.end();
            Due.pass(x, 3);
        }
        Due.roll(x, 6);
        Due.due(true, () -> x.has(0, 'w') > 0 && x.has(0, 'b') > 0);
        Due.due(false, () -> roadAnywhere(x));
        Due.due(true, () -> mayRoadAnywhere(x));
        Due.due(15L, () -> java.util.stream.IntStream.range(0, 150)
                .filter(i -> i / 25 < 3 || isOuter(i % 5, i / 5 % 5, i / 25))
                .filter(i -> x.roadAt(i % 5, i / 5 % 5, i / 25) == 0).count());
        Due.due(true, x::isTrue);
    }

    /** Whether a side 3, 4 or 5 is the first one of its two names. */
    private static boolean isOuter(int column, int row, int side) {
        return side == 4 ? column == 0
                : side == 3 ? row == 4 || column == 0 && row % 2 == 0
                : row == 0 || column == 0 && row % 2 == 0;
    }

    private static boolean roadAnywhere(HexhavenIsle x) {
        for (int i = 0; i < 150; i++) {
            try {
                x.road(i % 5, i / 5 % 5, i / 25);
                return true;
            } catch (UnsupportedOperationException e) {
                // the next side may do
            }
        }
        return false;
    }

    private static boolean mayRoadAnywhere(HexhavenIsle x) {
        for (int i = 0; i < 150; i++) {
            if (x.mayRoad(0, i % 5, i / 5 % 5, i / 25)) {
                return true;
            }
        }
        return false;
    }

    private static void town() {
        HexhavenIsle x = Due.two(6, 10);
        Due.due(Due.NO_INDEX, () -> x.town(0, 0, 6));
        Due.due(Due.NO_INDEX, () -> x.town(0, -1, 0));
        Due.due(Due.NOT_NOW, () -> x.town(3, 1, 0));
        Due.roll(x, 6);
        Due.refused(x, 2, Due.NOT_SO, () -> x.town(1, 1, 0));
        x.end();
        Due.roll(x, 6);
        Due.due("2 0 3 5 5", () -> Due.all(x, 1));
        Due.refused(x, 2, Due.NOT_SO, () -> x.town(1, 1, 0));
        Due.refused(x, 2, Due.NOT_SO, () -> x.town(4, 4, 0));
        Due.due(3, () -> x.town(3, 1, 0));
        Due.due("2 0 3 3 2", () -> Due.all(x, 1));
        Due.due(11, () -> x.at(3, 1, 0));
        Due.refused(x, 2, Due.NOT_SO, () -> x.town(3, 1, 0));
        Due.refused(x, 2, Due.NOT_SO, () -> x.town(3, 3, 0));
        x.end();
        Due.pass(x, 6);
        Due.due("4 0 4 6 5", () -> Due.all(x, 1));
        Due.roll(x, 3);
        Due.due(4, () -> x.town(3, 3, 0));
        Due.due(4, () -> x.points(1, true));
        Due.due(true, x::isTrue);
    }

    /** An island that feeds one player alone: by 6 all for a house, by 5 all for a road, by 4 ore. */
    private static HexhavenIsle rich(int player) {
        HexhavenIsle x = Due.full(12);
        x.land(1, 1, 'w', 6);
        x.land(1, 0, 'b', 6);
        x.land(2, 0, 's', 6);
        x.land(1, 3, 'g', 6);
        x.land(1, 2, 'b', 5);
        x.land(2, 2, 'w', 5);
        x.land(0, 1, 'o', 4);
        x.land(1, 4, 'o', 4);
        if (player == 0) {
            Due.beginTwo(x, 10);
        } else {
            x.begin(2, 10);
            Due.put(x, 3, 1, 0);
            Due.put(x, 1, 1, 0);
            Due.put(x, 1, 3, 0);
            Due.put(x, 3, 3, 0);
            Due.pass(x, 3);
        }
        return x;
    }

    /** A turn of the player who is fed by that sum, with what is told to be built, and one of the other without. */
    private static void turn(HexhavenIsle x, int sum, String... what) {
        Due.roll(x, sum);
        for (String one : what) {
            int column = one.charAt(1) - '0';
            int row = one.charAt(2) - '0';
            int corner = one.charAt(3) - '0';
            if (one.charAt(0) == 'r') {
                x.road(column, row, corner);
            } else if (one.charAt(0) == 'h') {
                x.house(column, row, corner);
            } else {
                x.town(column, row, corner);
            }
        }
        x.end();
        Due.pass(x, 3);
    }

    private static void housesRunOut() {
        HexhavenIsle x = rich(0);
        turn(x, 5, "r111");
        turn(x, 6, "h112");
        turn(x, 5, "r112", "r113");
        turn(x, 6, "h114");
        turn(x, 5, "r131");
        turn(x, 6, "h132");
        turn(x, 5, "r132", "r133");
        Due.due(5, () -> x.points(0, true));
        Due.roll(x, 6);
        Due.due(true, () -> x.mayHouse(0, 1, 3, 4));
        Due.due(Due.MISSING, () -> x.advise('p'));
        Due.refused(x, 2, Due.NOT_SO, () -> x.house(1, 3, 4));
        x.end();
        Due.pass(x, 3);
        for (int i = 0; i < 3; i++) {
            turn(x, 4);
        }
        // a town brings a house back
        Due.roll(x, 6);
        Due.due(6, () -> x.town(1, 1, 4));
        // the corner 4 of (1, 3) is told as the corner 2 of (0, 3), which is farther to the west
        Due.due(32, () -> x.advise('p'));
        Due.due(7, () -> x.house(1, 3, 4));
        Due.due(Due.MISSING, () -> x.advise('v'));
        Due.due(10, () -> x.at(1, 1, 4));
        x.end();
        Due.pass(x, 3);
        townWhenRich(x, 1, 1, 0);
        townWhenRich(x, 1, 1, 2);
        Due.due(9, () -> x.points(0, true));
        Due.due(true, x::isTrue);
    }

    private static void townsRunOut() {
        townsRunOutFor(0);
    }

    private static void townsOfTheOtherRunOut() {
        townsRunOutFor(1);
    }

    /** Four towns and a house are nine points: the fifth town fails for want of towns, not of goods. */
    private static void townsRunOutFor(int player) {
        HexhavenIsle x = rich(player);
        turn(x, 5, "r111");
        turn(x, 6, "h112");
        turn(x, 5, "r112", "r113");
        turn(x, 6, "h114");
        turn(x, 5, "r131");
        turn(x, 6, "h132");
        townWhenRich(x, 1, 1, 0);
        townWhenRich(x, 1, 1, 2);
        townWhenRich(x, 1, 1, 4);
        townWhenRich(x, 1, 3, 2);
        Due.due(9, () -> x.points(player, true));
        gatherForATown(x);
        Due.roll(x, 3);
        Due.due(true, () -> x.has(player, 'g') >= 2 && x.has(player, 'o') >= 3);
        Due.due(player, () -> x.at(1, 3, 0));
        Due.refused(x, 2, Due.NOT_SO, () -> x.town(1, 3, 0));
        Due.due(true, x::isTrue);
    }

    private static void gatherForATown(HexhavenIsle x) {
        int player = x.turn();
        for (int i = 0; i < 9 && (x.has(player, 'g') < 2 || x.has(player, 'o') < 3); i++) {
            turn(x, i % 2 == 0 ? 6 : 4);
        }
    }

    private static void townWhenRich(HexhavenIsle x, int column, int row, int corner) {
        gatherForATown(x);
        turn(x, 3, "t" + column + row + corner);
    }

    private static void waysRoundALand() {
        HexhavenIsle x = Due.full(12);
        x.land(1, 1, 'w', 6);
        x.land(1, 0, 'b', 6);
        Due.beginTwo(x, 10);
        int[] ways = {2, 3, 4, 5, 6};
        for (int i = 1; i < 6; i++) {
            int side = i;
            Due.roll(x, 6);
            Due.due(ways[i - 1], () -> x.road(1, 1, side));
            Due.due(i < 4 ? -1 : 0, () -> x.title('w'));
            x.end();
            Due.pass(x, 3);
        }
        // six round the land, and one that leaves it to the other house, with its road behind: a corner comes twice
        Due.roll(x, 6);
        Due.due(8, () -> x.road(2, 2, 4));
        x.end();
        Due.pass(x, 3);
        Due.due(8, () -> x.way(0));
        Due.due(1, () -> x.way(1));
        Due.due(Due.NO_INDEX, () -> x.way(2));
        Due.due(Due.NO_INDEX, () -> x.way(-1));
    }

    private static void titleOfTheWay() {
        HexhavenIsle x = ScoreTest.threeWithWays();
        Due.due(Due.BAD, () -> x.title('x'));
        Due.due(Due.BAD, () -> x.title('W'));
        Due.due(1, () -> x.title('w'));
        Due.due(6, () -> x.way(1));
        Due.due(5, () -> x.way(2));
        Due.due(4, () -> x.points(1, true));
        // the house of the player 0 cuts the way of the player 1: 4 and 2 roads, so that 5 are the longest
        Due.due(0, x::turn);
        Due.roll(x, 3);
        Due.due(3, () -> x.house(1, 2, 2));
        Due.due(4, () -> x.way(1));
        Due.due(2, () -> x.title('w'));
        Due.due(2, () -> x.points(1, true));
        Due.due(true, x::isTrue);
    }

    private static void titleStaysWhenEven() {
        HexhavenIsle x = Due.full(12);
        x.land(1, 1, 'w', 6);
        x.land(1, 0, 'b', 6);
        x.land(3, 1, 'w', 6);
        x.land(3, 0, 'b', 6);
        Due.beginTwo(x, 10);
        for (int i = 1; i < 5; i++) {
            int side = i;
            Due.roll(x, 6);
            x.road(1, 1, side);
            x.end();
            Due.roll(x, 6);
            Due.due(i + 1, () -> x.road(3, 1, side));
            Due.due(i < 4 ? -1 : 0, () -> x.title('w'));
            x.end();
        }
        Due.pass(x, 3);
        Due.roll(x, 6);
        Due.due(6, () -> x.road(3, 1, 5));
        Due.due(1, () -> x.title('w'));
        Due.due(2, () -> x.points(0, true));
        Due.due(4, () -> x.points(1, true));
        Due.due(true, x::isTrue);
    }

    private static void mayHouse() {
        HexhavenIsle x = Due.full(6);
        x.begin(2, 10);
        Due.due(Due.NO_INDEX, () -> x.mayHouse(2, 0, 0, 0));
        Due.due(Due.NO_INDEX, () -> x.mayHouse(-1, 0, 0, 0));
        Due.due(Due.NO_INDEX, () -> x.mayHouse(0, 5, 0, 0));
        Due.due(Due.NO_INDEX, () -> x.mayHouse(0, 0, 0, 6));
        Due.due(true, () -> x.mayHouse(1, 4, 4, 3));
        x.house(1, 1, 0);
        Due.due(false, () -> x.mayHouse(1, 4, 4, 3));
        x.road(1, 1, 0);
        Due.due(true, () -> x.mayHouse(0, 4, 4, 3));
        Due.due(false, () -> x.mayHouse(0, 1, 1, 5));
        HexhavenIsle y = Due.two(6, 10);
        Due.due(false, () -> y.mayHouse(0, 4, 4, 3));
        Due.due(false, () -> y.mayHouse(0, 1, 1, 2));
        Due.roll(y, 3);
        y.road(1, 1, 1);
        Due.due(true, () -> y.mayHouse(0, 1, 1, 2));
        Due.due(true, () -> y.mayHouse(0, 2, 2, 0));
        Due.due(false, () -> y.mayHouse(1, 1, 1, 2));
    }

    private static void mayRoad() {
        HexhavenIsle x = Due.full(6);
        x.begin(2, 10);
        Due.due(Due.NO_INDEX, () -> x.mayRoad(2, 0, 0, 0));
        Due.due(Due.NO_INDEX, () -> x.mayRoad(0, 0, 5, 0));
        Due.due(Due.NO_INDEX, () -> x.mayRoad(0, 0, 0, -1));
        Due.due(false, () -> x.mayRoad(0, 1, 1, 0));
        x.house(1, 1, 0);
        Due.due(true, () -> x.mayRoad(0, 1, 1, 0));
        Due.due(true, () -> x.mayRoad(0, 1, 1, 5));
        Due.due(true, () -> x.mayRoad(0, 2, 0, 4));
        Due.due(false, () -> x.mayRoad(1, 1, 1, 0));
        x.road(1, 1, 0);
        Due.due(false, () -> x.mayRoad(0, 1, 1, 0));
        Due.due(true, () -> x.mayRoad(0, 1, 1, 1));
        Due.put(x, 4, 4, 0);
        Due.put(x, 2, 4, 0);
        x.house(3, 3, 5);
        // in the phase 'w', too, other own roads and houses count
        Due.due('w', x::phase);
        Due.due(true, () -> x.mayRoad(0, 1, 1, 1));
        Due.due(Due.NOT_SO, () -> x.road(1, 1, 1));
    }

    private static void at() {
        HexhavenIsle x = Due.two(6, 10);
        Due.due(Due.NO_INDEX, () -> x.at(0, 0, 6));
        Due.due(Due.NO_INDEX, () -> x.at(0, 9, 0));
        Due.due(Due.NO_INDEX, () -> x.roadAt(0, 0, 6));
        Due.due(Due.NO_INDEX, () -> x.roadAt(-1, 0, 0));
        Due.due(0, () -> x.at(1, 1, 0));
        Due.due(0, () -> x.at(1, 0, 2));
        Due.due(0, () -> x.at(2, 0, 4));
        Due.due(1, () -> x.at(3, 3, 0));
        Due.due(-1, () -> x.at(1, 1, 1));
        Due.due(0, () -> x.roadAt(1, 1, 0));
        Due.due(0, () -> x.roadAt(2, 0, 3));
        Due.due(1, () -> x.roadAt(4, 2, 3));
        Due.due(-1, () -> x.roadAt(1, 1, 5));
    }

    private static void adviceAtTheBeginning() {
        HexhavenIsle x = new HexhavenIsle();
        Due.due(Due.BAD, () -> x.advise('x'));
        Due.due(Due.NOT_NOW, () -> x.advise('p'));
        // wood with 14 pips at one corner, and brick, sheep and grain with 7 at another one
        x.land(0, 0, 'w', 6);
        x.land(1, 0, 'w', 8);
        x.land(0, 1, 'w', 5);
        x.land(3, 3, 'b', 3);
        x.land(4, 3, 's', 4);
        x.land(4, 4, 'g', 3);
        x.begin(2, 3);
        Due.due(2, () -> x.advise('p'));
        Due.due(332, () -> x.advise('v'));
        Due.due(332, () -> x.advise('n'));
        x.house(3, 3, 2);
        Due.due(Due.NOT_NOW, () -> x.advise('p'));
        Due.due(Due.BAD, () -> x.advise('w'));
        x.road(3, 3, 2);
        Due.due(2, () -> x.advise('v'));
        Due.put(x, 0, 0, 2);
        // wood is got now: sheep is the best one that is not, told at a place of sea
        Due.due(0, () -> x.advise('p'));
        Due.due(0, () -> x.advise('v'));
        Due.due(422, () -> x.advise('n'));
        Due.put(x, 4, 3, 0);
        Due.due(0, () -> x.advise('n'));
    }

    /** 14 pips of one good and 4 of two are worth as much, so that the first one is advised. */
    private static void adviceByTens() {
        HexhavenIsle x = new HexhavenIsle();
        x.land(0, 0, 'w', 6);
        x.land(1, 0, 'w', 8);
        x.land(0, 1, 'w', 5);
        x.land(3, 3, 'w', 2);
        x.land(4, 3, 'b', 4);
        x.begin(2, 3);
        Due.due(2, () -> x.advise('v'));
        Due.due(2, () -> x.advise('n'));
        HexhavenIsle y = new HexhavenIsle();
        y.land(0, 0, 'w', 2);
        y.land(1, 0, 'b', 4);
        y.land(3, 3, 'w', 6);
        y.land(4, 3, 'w', 8);
        y.land(4, 4, 'w', 5);
        y.begin(2, 3);
        Due.due(1, () -> y.advise('v'));
        Due.due(1, () -> y.advise('n'));
        Due.due(332, () -> y.advise('p'));
    }

    private static void adviceKnowsEveryHouse() {
        HexhavenIsle x = new HexhavenIsle();
        x.land(0, 0, 'w', 6);
        x.land(2, 2, 'w', 6);
        x.land(4, 4, 'b', 2);
        x.begin(2, 3);
        // the very first corner and the very last place
        Due.put(x, 0, 0, 0);
        Due.put(x, 4, 4, 3);
        Due.due(2, () -> x.advise('p'));
        Due.due(2, () -> x.advise('n'));
        Due.put(x, 2, 2, 3);
        Due.due(332, () -> x.advise('n'));
        Due.due(2, () -> x.advise('v'));
    }

    private static void adviceInActions() {
        HexhavenIsle x = Due.two(6, 10);
        Due.due(Due.NOT_NOW, () -> x.advise('p'));
        Due.roll(x, 3);
        Due.due(Due.MISSING, () -> x.advise('p'));
        x.road(1, 1, 1);
        // goods are missing, but that is no matter; the corner is (1, 1, 2), which no place ahead has
        Due.due(112, () -> x.advise('p'));
        Due.due(112, () -> x.advise('v'));
        Due.due(112, () -> x.advise('n'));
    }
}
