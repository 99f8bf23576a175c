import java.util.NoSuchElementException;

/** An island of six-sided lands with settlers, dice, a bank, cards and titles: see ../shared/DOC.md. */
public final class HexhavenIsle {
    private static final int NONE = -1;
    private static final int MOST_PLAYERS = 4;
    private static final int COLUMNS = 5;
    private static final int ROWS = 5;
    private static final int PLACES = 25;
    private static final int SIX = 6;
    /** Corners, and sides, are known by the first of the numbers 6 times the place plus the corner, or side. */
    private static final int SPOTS = 150;

    private static final String GOODS = "wbsgo";
    private static final String LAND_KINDS = "wbsgod";
    private static final String HARBOUR_KINDS = "wbsgo?";
    private static final String CARD_KINDS = "kvmpr";
    private static final int KINDS = 5;
    private static final int DESERT = 5;
    private static final int ANY_GOOD = 5;
    private static final int KNIGHT = 0;
    private static final int POINT_CARD = 1;

    /** Costs are told as goods are: a digit for each of wood, brick, sheep, grain and ore. */
    private static final int ROAD_COST = 11000;
    private static final int HOUSE_COST = 11110;
    private static final int TOWN_COST = 23;
    private static final int CARD_COST = 111;
    private static final int MOST_GOODS = 99999;
    private static final int EACH_GOOD = 19;

    private static final int MOST_ROADS = 15;
    private static final int MOST_HOUSES = 5;
    private static final int MOST_TOWNS = 4;
    private static final int TOWN = 10;
    private static final int LEAST_WAY = 5;
    private static final int LEAST_KNIGHTS = 3;
    private static final int MOST_KEPT = 7;

    private static final char NO_GAME = '-';
    private static final char PUTS_HOUSE = 'h';
    private static final char PUTS_ROAD = 'w';
    private static final char ROLLS = 'r';
    private static final char LOSES = 'l';
    private static final char MOVES_THIEF = 't';
    private static final char ACTS = 'a';
    private static final char OVER = 'o';

    private final Places places;
    private final Lands lands;
    private final Board board;
    private final Hands hands;
    private final Titles titles;
    private final Ratings ratings;
    private final Chance chance;
    private final TurnNotes notes;
    private final Row isLoser;
    private final Row yields;
    private char phase;
    private int players;
    private int goal;
    private int turn;
    private int pairsPut;
    private int lastHouse;
    private int thiefPlace;

    public HexhavenIsle() {
        places = new Places();
        lands = new Lands(places);
        board = new Board(places, lands);
        hands = new Hands();
        titles = new Titles();
        ratings = new Ratings();
        chance = new Chance();
        notes = new TurnNotes();
        isLoser = new Row(MOST_PLAYERS, 0);
        yields = new Row(MOST_PLAYERS, 0);
        phase = NO_GAME;
        lastHouse = NONE;
        thiefPlace = NONE;
    }

    // ---- the places, ahead of games

    public char land(int column, int row, char kind, int number)
            throws IndexOutOfBoundsException, IllegalArgumentException, IllegalStateException {
        needPlace(column, row);
        if (!Lands.isLandKind(kind, number)) {
            throw new IllegalArgumentException("no such kind or number");
        }
        needNoGame();
        return lands.replaceLand(placeOf(column, row), kind, number);
    }

    public char harbour(int column, int row, int side, char kind)
            throws IndexOutOfBoundsException, IllegalArgumentException, IllegalStateException {
        needSpot(column, row, side);
        if (!Lands.isHarbourKind(kind)) {
            throw new IllegalArgumentException("no such harbour");
        }
        needNoGame();
        return lands.replaceHarbour(sideAt(column, row, side), kind);
    }

    public int pips(int column, int row, int corner) throws IndexOutOfBoundsException {
        needSpot(column, row, corner);
        return lands.pipsRound(cornerAt(column, row, corner));
    }

    public int touching() {
        return lands.countHotPairs();
    }

    public float landShare() {
        return (float) lands.countLands() / (float) PLACES;
    }

    // ---- the game as a whole

    public int begin(int players, int goal)
            throws IllegalArgumentException, IllegalStateException, UnsupportedOperationException {
        if (players < 2 || players > MOST_PLAYERS || goal < 3 || goal > 10) {
            throw new IllegalArgumentException("players or goal out of range");
        }
        needNoGame();
        int count = lands.countLands();
        if (count < 3) {
            throw new UnsupportedOperationException("too few lands");
        }
        this.players = players;
        this.goal = goal;
        board.clear();
        hands.clear();
        titles.clear();
        notes.clear();
        isLoser.clear();
        thiefPlace = lands.firstForThief();
        lastHouse = NONE;
        pairsPut = 0;
        turn = 0;
        phase = PUTS_HOUSE;
        return count;
    }

    public int seed(int z) throws IllegalArgumentException {
        if (z < 1 || z > Chance.GREATEST) {
            throw new IllegalArgumentException("seed out of range");
        }
        return chance.replace(z);
    }

    public char phase() {
        return phase;
    }

    public int turn() throws IllegalStateException {
        needGame();
        return turn;
    }

    public int thiefAt() throws IllegalStateException {
        needGame();
        return thiefPlace % COLUMNS * 10 + thiefPlace / COLUMNS;
    }

    // ---- building

    public int house(int column, int row, int corner)
            throws IndexOutOfBoundsException, IllegalStateException, UnsupportedOperationException {
        needSpot(column, row, corner);
        needPhase(PUTS_HOUSE, ACTS);
        int spot = cornerAt(column, row, corner);
        if (!isOpenForHouse(turn, spot)) {
            throw new UnsupportedOperationException("no house can be there");
        }
        if (phase == PUTS_HOUSE) {
            putHouse(spot);
        } else {
            buildHouse(spot);
        }
        return pointsOf(turn, false);
    }

    public int road(int column, int row, int side)
            throws IndexOutOfBoundsException, IllegalStateException, UnsupportedOperationException {
        needSpot(column, row, side);
        needPhase(PUTS_ROAD, ACTS);
        int spot = sideAt(column, row, side);
        int player = turn;
        if (!board.isOpenForRoad(player, spot)) {
            throw new UnsupportedOperationException("no road can be there");
        }
        if (phase == PUTS_ROAD) {
            putRoad(spot);
        } else {
            buildRoad(spot);
        }
        return titles.wayOf(player);
    }

    public int town(int column, int row, int corner)
            throws IndexOutOfBoundsException, IllegalStateException, UnsupportedOperationException {
        needSpot(column, row, corner);
        needPhase(ACTS, ACTS);
        int spot = cornerAt(column, row, corner);
        if (board.standing(spot) != turn) {
            throw new UnsupportedOperationException("no own house");
        }
        if (board.countTowns(turn) >= MOST_TOWNS) {
            throw new UnsupportedOperationException("no town left");
        }
        payFor(TOWN_COST);
        board.putTown(turn, spot);
        checkGoal();
        return pointsOf(turn, false);
    }

    private void putHouse(int spot) {
        board.putHouse(turn, spot);
        if (pairsPut >= players) {
            bringFirstGoods(spot);
        }
        lastHouse = spot;
        phase = PUTS_ROAD;
    }

    private void bringFirstGoods(int spot) {
        for (int k = 0; k < 3; k++) {
            int good = lands.goodOf(places.placeRound(spot, k));
            if (good != NONE) {
                hands.move(good, 1, Hands.BANK, turn);
            }
        }
    }

    private void buildHouse(int spot) {
        if (board.countHouses(turn) >= MOST_HOUSES) {
            throw new UnsupportedOperationException("no house left");
        }
        payFor(HOUSE_COST);
        board.putHouse(turn, spot);
        measureWays();
        checkGoal();
    }

    private void putRoad(int spot) {
        if (!places.isEnd(spot, lastHouse)) {
            throw new UnsupportedOperationException("not at the last house");
        }
        board.putRoad(turn, spot);
        measureWays();
        pairsPut++;
        if (pairsPut < 2 * players) {
            turn = pairsPut < players ? pairsPut : 2 * players - 1 - pairsPut;
            phase = PUTS_HOUSE;
        } else {
            beginTurn(0);
        }
    }

    private void buildRoad(int spot) {
        if (board.countRoads(turn) >= MOST_ROADS) {
            throw new UnsupportedOperationException("no road left");
        }
        if (notes.freeRoads > 0) {
            notes.freeRoads--;
        } else {
            payFor(ROAD_COST);
        }
        board.putRoad(turn, spot);
        measureWays();
        checkGoal();
    }

    private void payFor(int cost) {
        if (!hands.owns(turn, cost)) {
            throw new UnsupportedOperationException("goods are missing");
        }
        hands.moveAll(cost, turn, Hands.BANK);
    }

    private void measureWays() {
        for (int player = 0; player < players; player++) {
            titles.setWay(player, board.longestWay(player));
        }
        titles.passWayTitle();
    }

    // ---- the turn

    public int roll() throws IllegalStateException {
        needPhase(ROLLS, ROLLS);
        int sum = chance.rollDie() + chance.rollDie();
        if (sum == 7) {
            phase = markLosers() > 0 ? LOSES : MOVES_THIEF;
        } else {
            giveYields(sum);
            phase = ACTS;
        }
        return sum;
    }

    public int lose(int player, int goods)
            throws IndexOutOfBoundsException, IllegalArgumentException, IllegalStateException,
            UnsupportedOperationException {
        needPlayer(player);
        if (goods < 0 || goods > MOST_GOODS) {
            throw new IllegalArgumentException("not five digits");
        }
        needPhase(LOSES, LOSES);
        if (isLoser.get(player) == 0 || !hands.owns(player, goods)
                || Hands.countDigits(goods) != hands.countGoods(player) / 2) {
            throw new UnsupportedOperationException("not half of one who loses");
        }
        hands.moveAll(goods, player, Hands.BANK);
        isLoser.set(player, 0);
        int still = isLoser.sum(0, MOST_PLAYERS);
        if (still == 0) {
            phase = MOVES_THIEF;
        }
        return still;
    }

    public char thief(int column, int row, int from)
            throws IndexOutOfBoundsException, IllegalStateException, UnsupportedOperationException {
        needPlace(column, row);
        if (from != NONE) {
            needPlayer(from);
        }
        needPhase(MOVES_THIEF, MOVES_THIEF);
        int place = placeOf(column, row);
        if (!lands.isLand(place) || place == thiefPlace) {
            throw new UnsupportedOperationException("no other land");
        }
        if (from == NONE ? isAnyoneRobbable(place) : !isRobbable(from, place)) {
            throw new UnsupportedOperationException("another one is to be robbed");
        }
        thiefPlace = place;
        phase = ACTS;
        return from == NONE ? '-' : rob(from);
    }

    public int end() throws IllegalStateException {
        needPhase(ACTS, ACTS);
        beginTurn(turn + 1 < players ? turn + 1 : 0);
        return turn;
    }

    private void beginTurn(int player) {
        notes.clear();
        turn = player;
        phase = ROLLS;
        checkGoal();
    }

    private void checkGoal() {
        if (phase != OVER && pointsOf(turn, true) >= goal) {
            phase = OVER;
            ratings.payWinner(turn, players);
        }
    }

    private int markLosers() {
        int count = 0;
        for (int player = 0; player < players; player++) {
            boolean isOne = hands.countGoods(player) > MOST_KEPT;
            isLoser.set(player, isOne ? 1 : 0);
            count += isOne ? 1 : 0;
        }
        return count;
    }

    private void giveYields(int sum) {
        for (int good = 0; good < KINDS; good++) {
            yields.clear();
            for (int place = 0; place < PLACES; place++) {
                if (place != thiefPlace && lands.goodOf(place) == good && lands.numberOf(place) == sum) {
                    addYields(place);
                }
            }
            dealYields(good);
        }
    }

    private void addYields(int place) {
        for (int player = 0; player < players; player++) {
            yields.add(player, board.yieldAt(place, player));
        }
    }

    private void dealYields(int good) {
        int total = yields.sum(0, MOST_PLAYERS);
        boolean isEnough = total <= hands.countGood(Hands.BANK, good);
        for (int player = 0; player < players; player++) {
            int due = yields.get(player);
            // hands.move gives what there is, as the one who alone is to have it gets that
            if (due > 0 && (isEnough || due == total)) {
                hands.move(good, due, Hands.BANK, player);
            }
        }
    }

    private boolean isRobbable(int player, int place) {
        return player != turn && board.yieldAt(place, player) > 0 && hands.countGoods(player) > 0;
    }

    private boolean isAnyoneRobbable(int place) {
        for (int player = 0; player < players; player++) {
            if (isRobbable(player, place)) {
                return true;
            }
        }
        return false;
    }

    private char rob(int player) {
        int good = hands.goodInOrder(player, chance.pick(hands.countGoods(player)));
        hands.move(good, 1, player, turn);
        return letterOf(GOODS, good);
    }

    // ---- trading

    public int bank(char give, char take)
            throws IllegalArgumentException, IllegalStateException, UnsupportedOperationException {
        int given = needGood(give);
        int taken = needGood(take);
        if (given == taken) {
            throw new IllegalArgumentException("both are the same");
        }
        needPhase(ACTS, ACTS);
        int price = priceOf(turn, given);
        if (hands.countGood(turn, given) < price || hands.countGood(Hands.BANK, taken) < 1) {
            throw new UnsupportedOperationException("goods are missing");
        }
        hands.move(given, price, turn, Hands.BANK);
        hands.move(taken, 1, Hands.BANK, turn);
        return price;
    }

    public boolean offer(int give, int want)
            throws IllegalArgumentException, IllegalStateException, UnsupportedOperationException {
        if (give <= 0 || give > MOST_GOODS || want <= 0 || want > MOST_GOODS || Hands.isGoodInBoth(give, want)) {
            throw new IllegalArgumentException("no such offer");
        }
        needPhase(ACTS, ACTS);
        if (!hands.owns(turn, give)) {
            throw new UnsupportedOperationException("goods are missing");
        }
        boolean wasThere = notes.given > 0;
        notes.given = give;
        notes.wanted = want;
        return wasThere;
    }

    public int take(int player)
            throws IndexOutOfBoundsException, IllegalStateException, NoSuchElementException,
            UnsupportedOperationException {
        needPlayer(player);
        needPhase(ACTS, ACTS);
        if (notes.given == 0) {
            throw new NoSuchElementException("no offer");
        }
        if (player == turn || !hands.owns(turn, notes.given) || !hands.owns(player, notes.wanted)) {
            throw new UnsupportedOperationException("not another one, or goods are missing");
        }
        hands.moveAll(notes.given, turn, player);
        hands.moveAll(notes.wanted, player, turn);
        notes.dropOffer();
        return hands.countGoods(player);
    }

    public int left(char good) throws IllegalArgumentException {
        return hands.countGood(Hands.BANK, needGood(good));
    }

    public int rate(int player, char good) throws IndexOutOfBoundsException, IllegalArgumentException {
        needPlayer(player);
        return priceOf(player, needGood(good));
    }

    private int priceOf(int player, int good) {
        int price = 4;
        for (int side = 0; side < SPOTS; side++) {
            int kind = lands.harbourAt(side);
            if ((kind == good || kind == ANY_GOOD) && board.isAtSide(player, side)) {
                price = Math.min(price, kind == good ? 2 : 3);
            }
        }
        return price;
    }

    // ---- cards

    public int buy() throws IllegalStateException, UnsupportedOperationException {
        needPhase(ACTS, ACTS);
        int count = hands.countDeck();
        if (count == 0) {
            throw new UnsupportedOperationException("no card is left");
        }
        payFor(CARD_COST);
        int card = hands.deckInOrder(chance.pick(count));
        hands.drawCard(turn, card);
        notes.bought.add(card, 1);
        checkGoal();
        return count - 1;
    }

    public int play(char card, char good, char other)
            throws IllegalArgumentException, IllegalStateException, UnsupportedOperationException {
        needPlayable(card, good, other);
        needPhase(ACTS, ACTS);
        int kind = CARD_KINDS.indexOf(card);
        if (notes.isCardPlayed || hands.countCard(turn, kind) - notes.bought.get(kind) < 1) {
            throw new UnsupportedOperationException("no card that may be played");
        }
        notes.isCardPlayed = true;
        hands.dropCard(turn, kind);
        if (card == 'k') {
            return playKnight();
        }
        if (card == 'm') {
            playMonopoly(GOODS.indexOf(good));
        } else if (card == 'p') {
            hands.move(GOODS.indexOf(good), 1, Hands.BANK, turn);
            hands.move(GOODS.indexOf(other), 1, Hands.BANK, turn);
        } else {
            notes.freeRoads = 2;
        }
        return hands.countGoods(turn);
    }

    private static void needPlayable(char card, char good, char other) {
        if (card != 'k' && card != 'm' && card != 'p' && card != 'r') {
            throw new IllegalArgumentException("no such card");
        }
        if (card == 'm' || card == 'p') {
            needGood(good);
        }
        if (card == 'p') {
            needGood(other);
        }
    }

    private int playKnight() {
        int count = titles.countKnight(turn);
        phase = MOVES_THIEF;
        checkGoal();
        return count;
    }

    private void playMonopoly(int good) {
        for (int player = 0; player < players; player++) {
            if (player != turn) {
                hands.move(good, hands.countGood(player, good), player, turn);
            }
        }
    }

    // ---- what players have

    public int goods(int player) throws IndexOutOfBoundsException {
        needPlayer(player);
        return hands.countGoods(player);
    }

    public int has(int player, char good) throws IndexOutOfBoundsException, IllegalArgumentException {
        needPlayer(player);
        return hands.countGood(player, needGood(good));
    }

    public int cards(int player, char card) throws IndexOutOfBoundsException, IllegalArgumentException {
        needPlayer(player);
        int kind = CARD_KINDS.indexOf(card);
        if (kind < 0) {
            throw new IllegalArgumentException("no such card");
        }
        return hands.countCard(player, kind);
    }

    public int points(int player, boolean isSeen) throws IndexOutOfBoundsException {
        needPlayer(player);
        return pointsOf(player, !isSeen);
    }

    public int way(int player) throws IndexOutOfBoundsException {
        needPlayer(player);
        return titles.wayOf(player);
    }

    public int title(char title) throws IllegalArgumentException {
        if (title != 'w' && title != 'k') {
            throw new IllegalArgumentException("no such title");
        }
        return title == 'w' ? titles.wayHolder : titles.knightHolder;
    }

    public int expects(int player, char good) throws IndexOutOfBoundsException, IllegalArgumentException {
        needPlayer(player);
        int kind = needGood(good);
        int sum = 0;
        for (int place = 0; place < PLACES; place++) {
            if (place != thiefPlace && lands.goodOf(place) == kind) {
                sum += lands.pipsOf(place) * board.yieldAt(place, player);
            }
        }
        return sum;
    }

    public int rating(int player) throws IndexOutOfBoundsException {
        if (player < 0 || player >= MOST_PLAYERS) {
            throw new IndexOutOfBoundsException("no such player");
        }
        return ratings.ratingOf(player);
    }

    public double meanPoints() throws ArithmeticException {
        if (players <= 0) {
            throw new ArithmeticException("no game yet");
        }
        int sum = 0;
        for (int player = 0; player < players; player++) {
            sum += pointsOf(player, true);
        }
        return (double) sum / (double) players;
    }

    private int pointsOf(int player, boolean isCardCounted) {
        int hidden = isCardCounted ? hands.countCard(player, POINT_CARD) : 0;
        return board.countBuildingPoints(player) + 2 * titles.countTitles(player) + hidden;
    }

    // ---- what stands where

    public boolean mayHouse(int player, int column, int row, int corner) throws IndexOutOfBoundsException {
        needPlayer(player);
        needSpot(column, row, corner);
        return isOpenForHouse(player, cornerAt(column, row, corner));
    }

    public boolean mayRoad(int player, int column, int row, int side) throws IndexOutOfBoundsException {
        needPlayer(player);
        needSpot(column, row, side);
        return board.isOpenForRoad(player, sideAt(column, row, side));
    }

    public int at(int column, int row, int corner) throws IndexOutOfBoundsException {
        needSpot(column, row, corner);
        return board.standing(cornerAt(column, row, corner));
    }

    public int roadAt(int column, int row, int side) throws IndexOutOfBoundsException {
        needSpot(column, row, side);
        return board.roadOwner(sideAt(column, row, side));
    }

    public int advise(char worth)
            throws IllegalArgumentException, IllegalStateException, NoSuchElementException {
        if (worth != 'p' && worth != 'v' && worth != 'n') {
            throw new IllegalArgumentException("no such worth");
        }
        needPhase(PUTS_HOUSE, ACTS);
        int best = board.countHouses(turn) < MOST_HOUSES ? bestSpot(worth) : NONE;
        if (best == NONE) {
            throw new NoSuchElementException("no corner for a house");
        }
        int place = best / SIX;
        return place % COLUMNS * 100 + place / COLUMNS * 10 + best % SIX;
    }

    private int bestSpot(char worth) {
        int counted = worth == 'p' ? 0 : worth == 'v' ? Lands.ALL_GOODS : ~board.goodsGot(turn);
        int best = NONE;
        int most = -1;
        // the number of a corner is its first one by rows, columns and corners, so the first best one is due
        for (int spot = 0; spot < SPOTS; spot++) {
            if (isOpenForHouse(turn, spot)) {
                int value = lands.pipsRound(spot) + 10 * Integer.bitCount(lands.goodsRound(spot) & counted);
                best = value > most ? spot : best;
                most = Math.max(most, value);
            }
        }
        return best;
    }

    private boolean isOpenForHouse(int player, int spot) {
        return board.isFreeForHouse(spot) && (phase == PUTS_HOUSE || board.isRoadAtCorner(player, spot));
    }

    // ---- sums and checks

    public long checksum() {
        long sum = 7;
        for (int player = 0; player < players; player++) {
            sum = 31 * sum + pointsOf(player, true);
            for (int good = 0; good < KINDS; good++) {
                sum = 31 * sum + hands.countGood(player, good);
            }
            sum = 31 * sum + titles.wayOf(player);
        }
        sum = 31 * sum + chance.z;
        return 31 * sum + phase;
    }

    public boolean isTrue() {
        return hands.isWhole() && board.isApart() && areWaysTrue() && titles.areTitlesTrue();
    }

    private boolean areWaysTrue() {
        for (int player = 0; player < MOST_PLAYERS; player++) {
            if (titles.wayOf(player) != board.longestWay(player)) {
                return false;
            }
        }
        return true;
    }

    // ---- what calls need

    private static void needPlace(int column, int row) {
        if (!Places.isPlace(column, row)) {
            throw new IndexOutOfBoundsException("no such place");
        }
    }

    private static void needSpot(int column, int row, int sixth) {
        needPlace(column, row);
        if (sixth < 0 || sixth >= SIX) {
            throw new IndexOutOfBoundsException("no such corner or side");
        }
    }

    private void needPlayer(int player) {
        if (player < 0 || player >= players) {
            throw new IndexOutOfBoundsException("no such player");
        }
    }

    private static int needGood(char good) {
        int kind = GOODS.indexOf(good);
        if (kind < 0) {
            throw new IllegalArgumentException("no such good");
        }
        return kind;
    }

    private void needNoGame() {
        if (phase != NO_GAME && phase != OVER) {
            throw new IllegalStateException("a game goes on");
        }
    }

    private void needGame() {
        if (phase == NO_GAME) {
            throw new IllegalStateException("no game yet");
        }
    }

    private void needPhase(char one, char other) {
        if (phase != one && phase != other) {
            throw new IllegalStateException("not the phase for that");
        }
    }

    private static int placeOf(int column, int row) {
        return row * COLUMNS + column;
    }

    private int cornerAt(int column, int row, int corner) {
        return places.cornerOf(placeOf(column, row), corner);
    }

    private int sideAt(int column, int row, int side) {
        return places.sideOf(placeOf(column, row), side);
    }

    private static char letterOf(String letters, int index) {
        return index >= 0 && index < letters.length() ? letters.charAt(index) : '-';
    }

    /** A row of numbers that looks at each index first: outside of it there is what an empty cell holds. */
    private static final class Row {
        private final int[] cells;
        private final int empty;

        Row(int length, int empty) {
            this.cells = new int[length < 0 ? 0 : length];
            this.empty = empty;
            for (int i = 0; i < cells.length; i++) {
                cells[i] = empty;
            }
        }

        int get(int index) {
            return index >= 0 && index < cells.length ? cells[index] : empty;
        }

        void set(int index, int value) {
            if (index >= 0 && index < cells.length) {
                cells[index] = value;
            }
        }

        void add(int index, int value) {
            set(index, get(index) + value);
        }

        void clear() {
            for (int i = 0; i < cells.length; i++) {
                cells[i] = empty;
            }
        }

        int sum(int from, int count) {
            int sum = 0;
            for (int i = 0; i < count; i++) {
                sum += get(from + i);
            }
            return sum;
        }

        /** The cell, told from the first one, in which the unit of that number lies, as units lie in order. */
        int cellOfUnit(int from, int count, int unit) {
            int rest = unit;
            for (int i = 0; i < count; i++) {
                rest -= get(from + i);
                if (rest < 0) {
                    return i;
                }
            }
            return NONE;
        }
    }

    /** Which corners and sides of places are the same ones, and which lie at each other. */
    private static final class Places {
        private final Row corners;
        private final Row sides;
        private final Row ends;
        private final Row flanks;
        private final Row sidesRound;
        private final Row placesRound;

        Places() {
            corners = new Row(SPOTS, NONE);
            sides = new Row(SPOTS, NONE);
            ends = new Row(2 * SPOTS, NONE);
            flanks = new Row(2 * SPOTS, NONE);
            sidesRound = new Row(3 * SPOTS, NONE);
            placesRound = new Row(3 * SPOTS, NONE);
            for (int spot = 0; spot < SPOTS; spot++) {
                corners.set(spot, firstCorner(spot / SIX, spot % SIX));
                sides.set(spot, firstSide(spot / SIX, spot % SIX));
            }
            for (int spot = 0; spot < SPOTS; spot++) {
                tie(spot / SIX, spot % SIX);
            }
        }

        static boolean isPlace(int column, int row) {
            return column >= 0 && column < COLUMNS && row >= 0 && row < ROWS;
        }

        static int beside(int place, int side) {
            int column = place % COLUMNS;
            int row = place / COLUMNS;
            int shift = row & 1;
            if (side == 1 || side == 4) {
                column += side == 1 ? 1 : -1;
            } else {
                column += side == 0 || side == 2 ? shift : shift - 1;
                row += side == 0 || side == 5 ? -1 : 1;
            }
            return isPlace(column, row) ? row * COLUMNS + column : NONE;
        }

        private static int firstCorner(int place, int corner) {
            int first = place * SIX + corner;
            int ahead = beside(place, corner);
            int behind = beside(place, (corner + 5) % SIX);
            if (ahead != NONE) {
                first = Math.min(first, ahead * SIX + (corner + 4) % SIX);
            }
            if (behind != NONE) {
                first = Math.min(first, behind * SIX + (corner + 2) % SIX);
            }
            return first;
        }

        private static int firstSide(int place, int side) {
            int first = place * SIX + side;
            int across = beside(place, side);
            return across == NONE ? first : Math.min(first, across * SIX + (side + 3) % SIX);
        }

        private void tie(int place, int sixth) {
            int corner = cornerOf(place, sixth);
            int side = sideOf(place, sixth);
            append(placesRound, 3 * corner, 3, place);
            append(flanks, 2 * side, 2, place);
            if (side == place * SIX + sixth) {
                int next = cornerOf(place, (sixth + 1) % SIX);
                append(ends, 2 * side, 2, corner);
                append(ends, 2 * side, 2, next);
                append(sidesRound, 3 * corner, 3, side);
                append(sidesRound, 3 * next, 3, side);
            }
        }

        private static void append(Row row, int from, int count, int value) {
            for (int i = from; i < from + count; i++) {
                if (row.get(i) == NONE) {
                    row.set(i, value);
                    return;
                }
            }
        }

        int cornerOf(int place, int corner) {
            return corners.get(place * SIX + corner);
        }

        int sideOf(int place, int side) {
            return sides.get(place * SIX + side);
        }

        int placeRound(int corner, int k) {
            return placesRound.get(3 * corner + k);
        }

        int sideRound(int corner, int k) {
            return sidesRound.get(3 * corner + k);
        }

        int placeBy(int side, int k) {
            return flanks.get(2 * side + k);
        }

        int endOf(int side, int k) {
            return ends.get(2 * side + k);
        }

        boolean isEnd(int side, int corner) {
            return corner == endOf(side, 0) || corner == endOf(side, 1);
        }

        int farEnd(int side, int corner) {
            int first = ends.get(2 * side);
            return corner == first ? ends.get(2 * side + 1) : first;
        }
    }

    /** The lands with their numbers, and the harbours. */
    private static final class Lands {
        /** A bit for each good. */
        static final int ALL_GOODS = 31;

        private final Places places;
        private final Row kinds;
        private final Row numbers;
        private final Row harbours;

        Lands(Places places) {
            this.places = places;
            kinds = new Row(PLACES, NONE);
            numbers = new Row(PLACES, 0);
            harbours = new Row(SPOTS, NONE);
        }

        static boolean isLandKind(char kind, int number) {
            if (kind == '-' || kind == 'd') {
                return true;
            }
            return GOODS.indexOf(kind) >= 0 && number >= 2 && number <= 12 && number != 7;
        }

        static boolean isHarbourKind(char kind) {
            return kind == '-' || HARBOUR_KINDS.indexOf(kind) >= 0;
        }

        char replaceLand(int place, char kind, int number) {
            char before = letterOf(LAND_KINDS, kinds.get(place));
            int now = LAND_KINDS.indexOf(kind);
            kinds.set(place, now);
            numbers.set(place, now == NONE || now == DESERT ? 0 : number);
            return before;
        }

        char replaceHarbour(int side, char kind) {
            char before = letterOf(HARBOUR_KINDS, harbours.get(side));
            harbours.set(side, HARBOUR_KINDS.indexOf(kind));
            return before;
        }

        boolean isLand(int place) {
            return kinds.get(place) != NONE;
        }

        int goodOf(int place) {
            int kind = kinds.get(place);
            return kind == DESERT ? NONE : kind;
        }

        int numberOf(int place) {
            return numbers.get(place);
        }

        int harbourAt(int side) {
            return harbours.get(side);
        }

        int countLands() {
            int count = 0;
            for (int place = 0; place < PLACES; place++) {
                count += isLand(place) ? 1 : 0;
            }
            return count;
        }

        int firstForThief() {
            int first = NONE;
            for (int place = PLACES - 1; place >= 0; place--) {
                if (isLand(place)) {
                    first = place;
                }
            }
            for (int place = PLACES - 1; place >= 0; place--) {
                if (kinds.get(place) == DESERT) {
                    first = place;
                }
            }
            return first;
        }

        int countHotPairs() {
            int count = 0;
            for (int place = 0; place < PLACES; place++) {
                for (int side = 0; side < 3; side++) {
                    count += isHot(place) && isHot(Places.beside(place, side)) ? 1 : 0;
                }
            }
            return count;
        }

        private boolean isHot(int place) {
            return numberOf(place) == 6 || numberOf(place) == 8;
        }

        int pipsOf(int place) {
            int number = numberOf(place);
            return number == 0 ? 0 : 6 - Math.abs(number - 7);
        }

        int pipsRound(int corner) {
            int sum = 0;
            for (int k = 0; k < 3; k++) {
                sum += pipsOf(places.placeRound(corner, k));
            }
            return sum;
        }

        /** The goods round a corner, a bit for each. */
        int goodsRound(int corner) {
            int bits = 0;
            for (int k = 0; k < 3; k++) {
                int good = goodOf(places.placeRound(corner, k));
                bits |= good == NONE ? 0 : 1 << good;
            }
            return bits;
        }

        boolean isCornerOfLand(int corner) {
            return isLand(places.placeRound(corner, 0)) || isLand(places.placeRound(corner, 1))
                    || isLand(places.placeRound(corner, 2));
        }

        boolean isSideOfLand(int side) {
            return isLand(places.placeBy(side, 0)) || isLand(places.placeBy(side, 1));
        }
    }

    /** The houses, towns and roads. */
    private static final class Board {
        private final Places places;
        private final Lands lands;
        private final Row buildings;
        private final Row roads;
        private final Row isWalked;

        Board(Places places, Lands lands) {
            this.places = places;
            this.lands = lands;
            buildings = new Row(SPOTS, NONE);
            roads = new Row(SPOTS, NONE);
            isWalked = new Row(SPOTS, 0);
        }

        void clear() {
            buildings.clear();
            roads.clear();
        }

        void putHouse(int player, int corner) {
            buildings.set(corner, player);
        }

        void putTown(int player, int corner) {
            buildings.set(corner, TOWN + player);
        }

        void putRoad(int player, int side) {
            roads.set(side, player);
        }

        int standing(int corner) {
            return buildings.get(corner);
        }

        int roadOwner(int side) {
            return roads.get(side);
        }

        int ownerAt(int corner) {
            int building = buildings.get(corner);
            return building >= TOWN ? building - TOWN : building;
        }

        int countHouses(int player) {
            return count(buildings, player);
        }

        int countTowns(int player) {
            return count(buildings, TOWN + player);
        }

        int countRoads(int player) {
            return count(roads, player);
        }

        private static int count(Row row, int value) {
            int count = 0;
            for (int spot = 0; spot < SPOTS; spot++) {
                count += row.get(spot) == value ? 1 : 0;
            }
            return count;
        }

        int countBuildingPoints(int player) {
            int sum = 0;
            for (int corner = 0; corner < SPOTS; corner++) {
                sum += sizeAt(corner, player);
            }
            return sum;
        }

        /** How many goods of its lands a player gets at a place by a roll. */
        int yieldAt(int place, int player) {
            int sum = 0;
            for (int k = 0; k < SIX; k++) {
                sum += sizeAt(places.cornerOf(place, k), player);
            }
            return sum;
        }

        /** 1 for a house of the player, 2 for a town. */
        private int sizeAt(int corner, int player) {
            int building = buildings.get(corner);
            return building == player ? 1 : building == TOWN + player ? 2 : 0;
        }

        boolean isAtSide(int player, int side) {
            return ownerAt(places.endOf(side, 0)) == player || ownerAt(places.endOf(side, 1)) == player;
        }

        boolean isFreeForHouse(int corner) {
            return lands.isCornerOfLand(corner) && buildings.get(corner) == NONE && !isNeighbourBuilt(corner);
        }

        private boolean isNeighbourBuilt(int corner) {
            for (int k = 0; k < 3; k++) {
                int side = places.sideRound(corner, k);
                if (side != NONE && buildings.get(places.farEnd(side, corner)) != NONE) {
                    return true;
                }
            }
            return false;
        }

        boolean isRoadAtCorner(int player, int corner) {
            for (int k = 0; k < 3; k++) {
                int side = places.sideRound(corner, k);
                if (side != NONE && roads.get(side) == player) {
                    return true;
                }
            }
            return false;
        }

        boolean isOpenForRoad(int player, int side) {
            return roads.get(side) == NONE && lands.isSideOfLand(side)
                    && (mayBeginRoad(player, places.endOf(side, 0)) || mayBeginRoad(player, places.endOf(side, 1)));
        }

        private boolean mayBeginRoad(int player, int corner) {
            int owner = ownerAt(corner);
            return owner == player || owner == NONE && isRoadAtCorner(player, corner);
        }

        /** The goods of lands at which the player has a house or town, a bit for each. */
        int goodsGot(int player) {
            int bits = 0;
            for (int corner = 0; corner < SPOTS; corner++) {
                if (ownerAt(corner) == player) {
                    bits |= lands.goodsRound(corner);
                }
            }
            return bits;
        }

        int longestWay(int player) {
            int longest = 0;
            for (int side = 0; side < SPOTS; side++) {
                if (roads.get(side) == player) {
                    longest = Math.max(longest, walk(this, player, places.endOf(side, 0), 0));
                    longest = Math.max(longest, walk(this, player, places.endOf(side, 1), 0));
                }
            }
            return longest;
        }

        /** The longest way from a corner over roads that are not walked yet. */
        private static int walk(Board board, int player, int corner, int depth) {
            int longest = 0;
            for (int k = 0; k < 3 && depth < MOST_ROADS; k++) {
                int side = board.places.sideRound(corner, k);
                if (side != NONE && board.roads.get(side) == player && board.isWalked.get(side) == 0) {
                    board.isWalked.set(side, 1);
                    int next = board.places.farEnd(side, corner);
                    int owner = board.ownerAt(next);
                    boolean isOpen = owner == NONE || owner == player;
                    int more = isOpen ? walk(board, player, next, depth + 1) : 0;
                    longest = Math.max(longest, 1 + more);
                    board.isWalked.set(side, 0);
                }
            }
            return longest;
        }

        boolean isApart() {
            for (int corner = 0; corner < SPOTS; corner++) {
                if (buildings.get(corner) != NONE && isNeighbourBuilt(corner)) {
                    return false;
                }
            }
            return true;
        }
    }

    /** The goods of players and of the bank, and the cards of players and of the pile. */
    private static final class Hands {
        static final int BANK = MOST_PLAYERS;

        private final Row goods;
        private final Row cards;
        private final Row deck;

        Hands() {
            goods = new Row((MOST_PLAYERS + 1) * KINDS, 0);
            cards = new Row(MOST_PLAYERS * KINDS, 0);
            deck = new Row(KINDS, 0);
            clear();
        }

        void clear() {
            goods.clear();
            cards.clear();
            for (int good = 0; good < KINDS; good++) {
                goods.set(BANK * KINDS + good, EACH_GOOD);
                deck.set(good, 2);
            }
            deck.set(KNIGHT, 14);
            deck.set(POINT_CARD, 5);
        }

        static int digitOf(int goods, int good) {
            int rest = goods;
            for (int i = KINDS - 1; i > good; i--) {
                rest /= 10;
            }
            return rest % 10;
        }

        static int countDigits(int goods) {
            int sum = 0;
            for (int good = 0; good < KINDS; good++) {
                sum += digitOf(goods, good);
            }
            return sum;
        }

        static boolean isGoodInBoth(int one, int other) {
            for (int good = 0; good < KINDS; good++) {
                if (digitOf(one, good) > 0 && digitOf(other, good) > 0) {
                    return true;
                }
            }
            return false;
        }

        int countGood(int holder, int good) {
            return goods.get(holder * KINDS + good);
        }

        int countGoods(int holder) {
            return goods.sum(holder * KINDS, KINDS);
        }

        int goodInOrder(int holder, int unit) {
            return goods.cellOfUnit(holder * KINDS, KINDS, unit);
        }

        boolean owns(int holder, int told) {
            for (int good = 0; good < KINDS; good++) {
                if (countGood(holder, good) < digitOf(told, good)) {
                    return false;
                }
            }
            return true;
        }

        /** Moves as many of a good as there are, so that none is made. */
        void move(int good, int count, int from, int to) {
            int moved = Math.min(count, countGood(from, good));
            goods.add(from * KINDS + good, -moved);
            goods.add(to * KINDS + good, moved);
        }

        void moveAll(int told, int from, int to) {
            for (int good = 0; good < KINDS; good++) {
                move(good, digitOf(told, good), from, to);
            }
        }

        int countCard(int player, int card) {
            return cards.get(player * KINDS + card);
        }

        int countDeck() {
            return deck.sum(0, KINDS);
        }

        int deckInOrder(int unit) {
            return deck.cellOfUnit(0, KINDS, unit);
        }

        void drawCard(int player, int card) {
            deck.add(card, -1);
            cards.add(player * KINDS + card, 1);
        }

        void dropCard(int player, int card) {
            cards.add(player * KINDS + card, -1);
        }

        boolean isWhole() {
            for (int good = 0; good < KINDS; good++) {
                int sum = 0;
                for (int holder = 0; holder <= BANK; holder++) {
                    sum += countGood(holder, good);
                }
                if (sum != EACH_GOOD) {
                    return false;
                }
            }
            return true;
        }
    }

    /** The longest ways, the knights that were played, and who has the titles for them. */
    private static final class Titles {
        private final Row ways;
        private final Row knights;
        private int wayHolder;
        private int knightHolder;

        Titles() {
            ways = new Row(MOST_PLAYERS, 0);
            knights = new Row(MOST_PLAYERS, 0);
            wayHolder = NONE;
            knightHolder = NONE;
        }

        void clear() {
            ways.clear();
            knights.clear();
            wayHolder = NONE;
            knightHolder = NONE;
        }

        void setWay(int player, int length) {
            ways.set(player, length);
        }

        int wayOf(int player) {
            return ways.get(player);
        }

        int countTitles(int player) {
            return (wayHolder == player ? 1 : 0) + (knightHolder == player ? 1 : 0);
        }

        int countKnight(int player) {
            knights.add(player, 1);
            int count = knights.get(player);
            // outside of its row a holder that is nobody has 0, so that 3 are more than those
            if (count >= LEAST_KNIGHTS && count > knights.get(knightHolder)) {
                knightHolder = player;
            }
            return count;
        }

        void passWayTitle() {
            if (!isTopWay(wayHolder)) {
                wayHolder = soleTopWay();
            }
        }

        private static int greatest(Row row) {
            int most = 0;
            for (int player = 0; player < MOST_PLAYERS; player++) {
                most = Math.max(most, row.get(player));
            }
            return most;
        }

        private boolean isTopWay(int player) {
            return player != NONE && wayOf(player) >= LEAST_WAY && wayOf(player) == greatest(ways);
        }

        /** Who alone has the longest way of 5 or more, or nobody. */
        private int soleTopWay() {
            int sole = NONE;
            int count = 0;
            for (int player = 0; player < MOST_PLAYERS; player++) {
                if (isTopWay(player)) {
                    sole = player;
                    count++;
                }
            }
            return count == 1 ? sole : NONE;
        }

        boolean areTitlesTrue() {
            boolean isWayTrue = wayHolder == NONE ? soleTopWay() == NONE : isTopWay(wayHolder);
            int most = greatest(knights);
            boolean isKnightTrue = knightHolder == NONE
                    ? most < LEAST_KNIGHTS
                    : most >= LEAST_KNIGHTS && knights.get(knightHolder) == most;
            return isWayTrue && isKnightTrue;
        }
    }

    /** The ratings of players, over all games. */
    private static final class Ratings {
        private final Row ratings;

        Ratings() {
            ratings = new Row(MOST_PLAYERS, 1500);
        }

        int ratingOf(int player) {
            return ratings.get(player);
        }

        void payWinner(int winner, int players) {
            int ahead = ratings.get(winner);
            for (int player = 0; player < players; player++) {
                if (player != winner) {
                    int given = Math.max(1, Math.min(31, 16 + (ratings.get(player) - ahead) / 25));
                    ratings.add(player, -given);
                    ratings.add(winner, given);
                }
            }
        }
    }

    /** The number from which dice, robbed goods and cards are told. */
    private static final class Chance {
        static final int GREATEST = 2147483646;

        private int z;

        Chance() {
            z = 1;
        }

        int replace(int next) {
            int before = z;
            z = next;
            return before;
        }

        private void step() {
            z = (int) (z * 48271L % 2147483647L);
        }

        int rollDie() {
            step();
            return 1 + z % 6;
        }

        int pick(int count) {
            step();
            return count > 0 ? z % count : 0;
        }
    }

    /** What lasts for one turn alone: the offer, free roads, and which cards it brought or saw. */
    private static final class TurnNotes {
        private final Row bought;
        private int given;
        private int wanted;
        private int freeRoads;
        private boolean isCardPlayed;

        TurnNotes() {
            bought = new Row(KINDS, 0);
        }

        void clear() {
            bought.clear();
            dropOffer();
            freeRoads = 0;
            isCardPlayed = false;
        }

        void dropOffer() {
            given = 0;
            wanted = 0;
        }
    }
}
