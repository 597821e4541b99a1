import java.util.ArrayList;
import java.util.Arrays;
import java.util.List;

/**
 * A tea race over a sea of cells, with its logs, charters and market. What each call answers is promised
 * by the document, ../shared/DOC.md.
 */
public final class TeaRace {
    public static final int BAD = -1, FULL = -2, FINDING = -3, STATE = -4, NONE = -9;

    private static final int NOTHING = 1, BEYOND = 2, UNLIKE = 3, NOUGHT = 4, SIZE = 5;
    private static final int CLIPPER = 1, STEAMER = 2, RACER = 3;

    private static final int COLUMNS = 16, CELLS = 160, WAYS = 8, MONTHS = 12;
    private static final int HOURS_OF_MONTH = 720, HOURS_OF_DAY = 24, HOURS_OF_GATE = 6;
    private static final int STRAIGHT_NEED = 60, SLANTING_NEED = 85, STEAM = 8, CALM = 0;
    private static final int WIND_ADDED = 1000, HUNDRED = 100;

    private static final int LAST_CELL = 159, LAST_COLUMN = 15, LAST_ROW = 9, LAST_WAY = 7, LAST_MONTH = 11;
    private static final int LAST_HOUR = 100000, LAST_DEPARTURE = 98000, LAST_HOUR_OF_DAY = 23;
    private static final int MOST_STRENGTH = 9, MOST_WIND = 79, MOST_FOULNESS = 9, MOST_CHESTS = 20000;
    private static final int MOST_SHIPS = 8, MOST_ORDERS = 20, MOST_SIGHTS = 60;
    private static final int MOST_RUN = 2000, MOST_PASSAGE = 2000, MOST_MOVES = 1000;
    private static final int MOST_RATE = 1000, MOST_PREMIUM = 100000, MOST_PRICE = 10000, MOST_FALL = 1000;

    private static final int[] EAST_BY_WAY = {0, 1, 1, 1, 0, -1, -1, -1};
    private static final int[] SOUTH_BY_WAY = {-1, -1, 0, 1, 1, 1, 0, -1};

    private final Sea sea = new Sea();
    private final Passage passage = new Passage();
    private final List<Ship> fleet = new ArrayList<>();
    private final int[] findingCounts = new int[SIZE + 1];
    private int latestFinding = 0;
    private int hour = 0;
    private int homeCell = 0;
    private int gateHour = 0;
    private int sightCount = 0;
    private int priceAtFirst = 100;
    private int fallOfPrice = 1;
    private long latestSale = 0;

    public TeaRace() {
    }

    // ---- 1 the sea, ships

    public int land(int cell, boolean is) {
        if (outside(cell, LAST_CELL)) {
            return BAD;
        }
        boolean was = sea.isLand(cell);
        sea.setLand(cell, is);
        return was ? 1 : 0;
    }

    public int chart(int month) {
        if (outside(month, LAST_MONTH)) {
            return BAD;
        }
        boolean was = sea.hasChart(month);
        sea.drawCalm(month);
        return was ? 1 : 0;
    }

    public int wind(int month, int cell, int v) {
        if (outside(month, LAST_MONTH)) {
            return BAD;
        }
        if (!sea.hasChart(month)) {
            return found(NOTHING);
        }
        if (outside(cell, LAST_CELL)) {
            return found(BEYOND);
        }
        int was = sea.drawnAt(month, cell);
        sea.drawAt(month, cell, (byte) v);
        return was + WIND_ADDED;
    }

    public int tear(int month) {
        if (outside(month, LAST_MONTH)) {
            return BAD;
        }
        if (!sea.hasChart(month)) {
            return found(NOTHING);
        }
        sea.loseChart(month);
        return 1;
    }

    public int copy(int month, int i, int to, int j, int n) {
        if (outside(month, LAST_MONTH) || outside(to, LAST_MONTH)) {
            return BAD;
        }
        if (n < 0) {
            return found(SIZE);
        }
        if (!sea.hasChart(month) || !sea.hasChart(to)) {
            return found(NOTHING);
        }
        // n stands on the right of each test, as i + n could wrap round
        if (outside(i, CELLS - n) || outside(j, CELLS - n)) {
            return found(BEYOND);
        }
        sea.copyChart(month, i, to, j, n);
        return 1;
    }

    public int mean(int month) {
        if (outside(month, LAST_MONTH)) {
            return BAD;
        }
        if (!sea.hasChart(month)) {
            return found(NOTHING);
        }
        int sum = 0;
        for (int cell = 0; cell < CELLS; cell++) {
            sum += strengthOf(sea.windIn(month, cell));
        }
        return sum / CELLS;
    }

    public int ship(int kind, int cell, int chests) {
        if (outside(kind, RACER) || isNoWater(cell) || outside(chests, MOST_CHESTS)) {
            return BAD;
        }
        if (fleet.size() >= MOST_SHIPS) {
            return FULL;
        }
        if (hour != 0) {
            return STATE;
        }
        int number = fleet.size();
        fleet.add(new Ship(number, kind, cell, chests));
        return number;
    }

    public int foul(int ship, int f) {
        Ship s = shipOf(ship);
        if (s == null || outside(f, MOST_FOULNESS)) {
            return BAD;
        }
        int was = s.foulness;
        s.foulness = f;
        return was;
    }

    public int told(int ship, int what) {
        Ship s = shipOf(ship);
        if (s == null) {
            return BAD;
        }
        switch (what) {
            case 0: return s.kind;
            case 1: return s.cell;
            case 2: return s.gone;
            case 3: return s.way;
            case 4: return s.homeHour;
            case 5: return s.entry;
            case 6: return s.chests;
            default: return BAD;
        }
    }

    public int mark(int ship, int kind) {
        Ship s = shipOf(ship);
        if (s == null || kind < CLIPPER || kind > RACER) {
            return BAD;
        }
        if (!s.isOf(kind)) {
            return found(UNLIKE);
        }
        switch (kind) {
            case CLIPPER: return s.orders.size();
            // a steamer makes the same speed in every way and wind
            case STEAMER: return s.speedIn(s.way, CALM);
            default: return s.cellsComeTo;
        }
    }

    public int speed(int ship, int way, int from, int strength) {
        Ship s = shipOf(ship);
        if (s == null || outside(way, LAST_WAY) || outside(from, LAST_WAY) || outside(strength, MOST_STRENGTH)) {
            return BAD;
        }
        return s.speedIn(way, 10 * from + strength);
    }

    public int order(int ship, int a, int b, int c, int d, int strength, int way) {
        Ship s = shipOf(ship);
        if (s == null || isNoSpan(a, b, LAST_COLUMN) || isNoSpan(c, d, LAST_ROW)) {
            return BAD;
        }
        if (outside(strength, MOST_STRENGTH) || outside(way, LAST_WAY)) {
            return BAD;
        }
        if (s.orders.size() >= MOST_ORDERS) {
            return FULL;
        }
        s.orders.add(new Order(a, b, c, d, strength, way));
        return s.orders.size();
    }

    public int home(int cell, int g) {
        if (isNoWater(cell) || outside(g, LAST_HOUR_OF_DAY)) {
            return BAD;
        }
        if (hour != 0) {
            return STATE;
        }
        homeCell = cell;
        gateHour = g;
        return 1;
    }

    // ---- 2 the race

    public int run(int n) {
        if (outside(n, MOST_RUN)) {
            return BAD;
        }
        if (n > LAST_HOUR - hour) {
            return FULL;
        }
        int homeBefore = shipsHome();
        for (int i = 0; i < fleet.size(); i++) {
            sail(fleet.get(i), hour + n);
        }
        hour += n;
        return shipsHome() - homeBefore;
    }

    public int first() {
        Ship best = theFirst();
        return best == null ? NONE : best.number;
    }

    public int least(int ship, int from, int to, int hour) {
        Ship s = shipOf(ship);
        if (s == null || isNoWater(from) || isNoWater(to) || outside(hour, LAST_DEPARTURE)) {
            return BAD;
        }
        return passage.leastHours(sea, s, from, to, hour);
    }

    // ---- 3 logs, charters, the market

    public int sight(int ship, int cell, int hour) {
        Ship s = shipOf(ship);
        if (s == null || outside(cell, LAST_CELL) || outside(hour, LAST_HOUR) || !s.isUnseenFrom(hour)) {
            return BAD;
        }
        if (sightCount >= MOST_SIGHTS) {
            return FULL;
        }
        s.sights.add(new Sight(cell, hour));
        sightCount++;
        return sightCount;
    }

    public int distance(int ship, int hour, boolean most) {
        Ship s = shipOf(ship);
        if (s == null || outside(hour, LAST_HOUR)) {
            return BAD;
        }
        return most ? mostDistance(s, hour) : leastDistance(s, hour);
    }

    public int ahead(int ship, int other, int hour) {
        Ship s = shipOf(ship);
        Ship o = shipOf(other);
        if (s == null || o == null || ship == other || outside(hour, LAST_HOUR)) {
            return BAD;
        }
        if (!s.isSeenAround(hour) || !o.isSeenAround(hour)) {
            return NONE;
        }
        if (mostDistance(s, hour) < leastDistance(o, hour)) {
            return 0;
        }
        return mostDistance(o, hour) < leastDistance(s, hour) ? 1 : 2;
    }

    public int charter(int ship, int rate, int premium) {
        Ship s = shipOf(ship);
        if (s == null || outside(rate, MOST_RATE) || outside(premium, MOST_PREMIUM)) {
            return BAD;
        }
        s.rate = rate;
        s.premium = premium;
        return 1;
    }

    public int freight(int ship) {
        Ship s = shipOf(ship);
        if (s == null) {
            return BAD;
        }
        if (!s.isHome()) {
            return STATE;
        }
        int premium = s == theFirst() ? s.premium : 0;
        return s.chests * s.rate + premium;
    }

    public int market(int price, int fall) {
        if (price < 1 || price > MOST_PRICE || outside(fall, MOST_FALL)) {
            return BAD;
        }
        priceAtFirst = price;
        fallOfPrice = fall;
        return 1;
    }

    public int sale(int ship) {
        Ship s = shipOf(ship);
        if (s == null) {
            return BAD;
        }
        if (!s.isHome()) {
            return STATE;
        }
        latestSale = takings(s);
        return priceAtEntry(s);
    }

    public int meanPrice() {
        long sum = 0;
        long chests = 0;
        for (int i = 0; i < fleet.size(); i++) {
            Ship s = fleet.get(i);
            if (s.isHome()) {
                sum += takings(s);
                chests += s.chests;
            }
        }
        if (chests == 0) {
            return found(NOUGHT);
        }
        return (int) (sum / chests);
    }

    // ---- 4 what is told

    public long asked() {
        return latestSale;
    }

    public int count(int what) {
        switch (what) {
            case 0: return fleet.size();
            case 1: return hour;
            case 2: return sea.chartsThere();
            case 3: return sightCount;
            case 4: return shipsHome();
            default: return BAD;
        }
    }

    public int finding() {
        return latestFinding;
    }

    public int findings(int f) {
        if (f < NOTHING || f > SIZE) {
            return BAD;
        }
        return findingCounts[f];
    }

    public long digest() {
        long h = 17;
        for (int what = 0; what <= 4; what++) {
            h = 31 * h + count(what);
        }
        for (int ship = 0; ship < fleet.size(); ship++) {
            for (int what = 0; what <= 6; what++) {
                h = 31 * h + told(ship, what);
            }
        }
        for (int month = 0; month < MONTHS; month++) {
            h = sea.digestChart(month, h);
        }
        return h;
    }

    // ---- numbers that are looked at

    private static boolean outside(int number, int most) {
        return number < 0 || number > most;
    }

    private static boolean isNoSpan(int low, int high, int most) {
        return outside(low, most) || outside(high, most) || low > high;
    }

    private boolean isNoWater(int cell) {
        return outside(cell, LAST_CELL) || sea.isLand(cell);
    }

    private Ship shipOf(int number) {
        return number < 0 || number >= fleet.size() ? null : fleet.get(number);
    }

    private int found(int f) {
        if (f >= NOTHING && f <= SIZE) {
            latestFinding = f;
            findingCounts[f]++;
        }
        return FINDING;
    }

    // ---- ways, winds and hours

    private static int strengthOf(int wind) {
        return wind % 10;
    }

    /** How many eighths of a turn lie between two ways, the shorter way round. */
    private static int eighthsBetween(int way, int other) {
        int apart = Math.abs(way - other);
        return Math.min(apart, WAYS - apart);
    }

    private static int needOf(int way) {
        return way % 2 == 0 ? STRAIGHT_NEED : SLANTING_NEED;
    }

    private static int monthOf(int hour) {
        return Math.floorMod(hour / HOURS_OF_MONTH, MONTHS);
    }

    /** The first hour from one on in which the dock is open. */
    private int entryFrom(int hour) {
        int sinceOpening = Math.floorMod(hour - gateHour, HOURS_OF_DAY);
        return sinceOpening < HOURS_OF_GATE ? hour : hour + HOURS_OF_DAY - sinceOpening;
    }

    // ---- the going of a ship

    /**
     * Within one month a cell's wind stays, and orders don't change in a run: asking at each hour's begin would tell
     * the same way again, so it is asked only as a run or a month begins and in each cell come to.
     */
    private void sail(Ship ship, int end) {
        int speed = 0;
        for (int at = hour; at < end && !ship.isHome(); at++) {
            if (at == hour || at % HOURS_OF_MONTH == 0) {
                ship.askWay(sea.windIn(monthOf(at), ship.cell));
                speed = ship.speedIn(ship.way, sea.windIn(monthOf(at), ship.cell));
            }
            ship.gone += speed;
            if (ship.gone >= needOf(ship.way)) {
                moveOn(ship, at);
                speed = ship.speedIn(ship.way, sea.windIn(monthOf(at), ship.cell));
            }
        }
    }

    private void moveOn(Ship ship, int at) {
        for (int moves = 0; moves < MOST_MOVES && ship.gone >= needOf(ship.way) && !ship.isHome(); moves++) {
            int next = sea.nextCell(ship.cell, ship.way);
            if (next == NONE) {
                ship.gone = 0;
            } else {
                ship.gone -= needOf(ship.way);
                comeTo(ship, next, at);
            }
        }
    }

    private void comeTo(Ship ship, int cell, int at) {
        ship.cell = cell;
        ship.cellsComeTo++;
        ship.askWay(sea.windIn(monthOf(at), cell));
        if (cell == homeCell) {
            ship.homeHour = at;
            ship.entry = entryFrom(at);
        }
    }

    private int shipsHome() {
        int n = 0;
        for (int i = 0; i < fleet.size(); i++) {
            if (fleet.get(i).isHome()) {
                n++;
            }
        }
        return n;
    }

    private Ship theFirst() {
        Ship best = null;
        for (int i = 0; i < fleet.size(); i++) {
            Ship s = fleet.get(i);
            if (s.isHome() && (best == null || s.beats(best))) {
                best = s;
            }
        }
        return best;
    }

    // ---- logs

    private int distanceFromHome(int cell) {
        int columns = Math.abs(cell % COLUMNS - homeCell % COLUMNS);
        int rows = Math.abs(cell / COLUMNS - homeCell / COLUMNS);
        return Math.max(columns, rows);
    }

    private int leastDistance(Ship ship, int hour) {
        Sight before = ship.lastSightBy(hour);
        Sight after = ship.firstSightFrom(hour);
        if (before == null || after == null) {
            return NONE;
        }
        int byBefore = distanceFromHome(before.cell) - (hour - before.hour);
        int byAfter = distanceFromHome(after.cell) - (after.hour - hour);
        return Math.max(0, Math.max(byBefore, byAfter));
    }

    private int mostDistance(Ship ship, int hour) {
        Sight before = ship.lastSightBy(hour);
        Sight after = ship.firstSightFrom(hour);
        if (before == null || after == null) {
            return NONE;
        }
        int byBefore = distanceFromHome(before.cell) + (hour - before.hour);
        int byAfter = distanceFromHome(after.cell) + (after.hour - hour);
        return Math.min(byBefore, byAfter);
    }

    // ---- the market

    private int priceAtEntry(Ship seller) {
        int chestsBefore = 0;
        for (int i = 0; i < fleet.size(); i++) {
            Ship s = fleet.get(i);
            if (s.isHome() && s.entersBefore(seller)) {
                chestsBefore += s.chests;
            }
        }
        int hundredsBegun = (chestsBefore + HUNDRED - 1) / HUNDRED;
        return Math.max(1, priceAtFirst - fallOfPrice * hundredsBegun);
    }

    private long takings(Ship seller) {
        return (long) seller.chests * priceAtEntry(seller);
    }

    /** The cells with their land, and the charts of the months. */
    private static final class Sea {
        private final boolean[] landCells = new boolean[CELLS];
        private final boolean[] chartThere = new boolean[MONTHS];
        // a row for each month from the first on, so that a chart drawn again makes no new one
        private final byte[][] charts = new byte[MONTHS][CELLS];

        boolean isLand(int cell) {
            return !outside(cell, LAST_CELL) && landCells[cell];
        }

        void setLand(int cell, boolean is) {
            if (!outside(cell, LAST_CELL)) {
                landCells[cell] = is;
            }
        }

        boolean hasChart(int month) {
            return !outside(month, LAST_MONTH) && chartThere[month];
        }

        int chartsThere() {
            int n = 0;
            for (int month = 0; month < MONTHS; month++) {
                if (chartThere[month]) {
                    n++;
                }
            }
            return n;
        }

        void drawCalm(int month) {
            if (!outside(month, LAST_MONTH)) {
                chartThere[month] = true;
                Arrays.fill(charts[month], (byte) CALM);
            }
        }

        void loseChart(int month) {
            if (!outside(month, LAST_MONTH)) {
                chartThere[month] = false;
            }
        }

        /** The byte that was drawn, even where it is no wind. */
        int drawnAt(int month, int cell) {
            return hasChart(month) && !outside(cell, LAST_CELL) ? charts[month][cell] : CALM;
        }

        void drawAt(int month, int cell, byte wind) {
            if (hasChart(month) && !outside(cell, LAST_CELL)) {
                charts[month][cell] = wind;
            }
        }

        void copyChart(int month, int i, int to, int j, int n) {
            if (!hasChart(month) || !hasChart(to) || n < 0) {
                return;
            }
            if (!outside(i, CELLS - n) && !outside(j, CELLS - n)) {
                System.arraycopy(charts[month], i, charts[to], j, n);
            }
        }

        int windIn(int month, int cell) {
            if (outside(month, LAST_MONTH) || outside(cell, LAST_CELL) || !chartThere[month]) {
                return CALM;
            }
            int drawn = charts[month][cell];
            return outside(drawn, MOST_WIND) ? CALM : drawn;
        }

        /** The cell that lies next in a way; NONE where no ship can go. */
        int nextCell(int cell, int way) {
            if (outside(cell, LAST_CELL) || outside(way, LAST_WAY)) {
                return NONE;
            }
            int column = cell % COLUMNS + EAST_BY_WAY[way];
            int row = cell / COLUMNS + SOUTH_BY_WAY[way];
            if (outside(column, LAST_COLUMN) || outside(row, LAST_ROW)) {
                return NONE;
            }
            int next = COLUMNS * row + column;
            return isLand(next) ? NONE : next;
        }

        long digestChart(int month, long before) {
            if (!hasChart(month)) {
                return 31 * before - 1;
            }
            long h = before;
            for (int cell = 0; cell < CELLS; cell++) {
                h = 31 * h + drawnAt(month, cell);
            }
            return h;
        }
    }

    /** A ship with its orders, its log and its charter. */
    private static final class Ship {
        final int number;
        final int kind;
        final int chests;
        final List<Order> orders = new ArrayList<>();
        final List<Sight> sights = new ArrayList<>();
        int cell;
        int gone = 0;
        int way = 0;
        int foulness = 0;
        int cellsComeTo = 0;
        int homeHour = NONE;
        int entry = NONE;
        int rate = 0;
        int premium = 0;

        Ship(int number, int kind, int cell, int chests) {
            this.number = number;
            this.kind = kind;
            this.cell = cell;
            this.chests = chests;
        }

        boolean isHome() {
            return homeHour != NONE;
        }

        boolean isOf(int other) {
            return kind == other || kind == RACER && other == CLIPPER;
        }

        int speedIn(int way, int wind) {
            int full = kind == STEAMER ? STEAM : sailSpeed(eighthsBetween(way, wind / 10), strengthOf(wind));
            return Math.max(0, full - foulness);
        }

        private int sailSpeed(int eighths, int strength) {
            switch (eighths) {
                case 1: return strength;
                case 2: return (2 + moreAcrossTheWind()) * strength;
                case 3: return (3 + moreAcrossTheWind()) * strength;
                case 4: return 2 * strength;
                default: return 0;
            }
        }

        private int moreAcrossTheWind() {
            if (kind == RACER) {
                return 2;
            }
            return kind == CLIPPER ? 1 : 0;
        }

        void askWay(int wind) {
            for (int i = 0; i < orders.size(); i++) {
                Order o = orders.get(i);
                if (o.fits(cell, strengthOf(wind))) {
                    way = o.way;
                    return;
                }
            }
        }

        boolean beats(Ship other) {
            if (entry != other.entry) {
                return entry < other.entry;
            }
            if (homeHour != other.homeHour) {
                return homeHour < other.homeHour;
            }
            return number < other.number;
        }

        boolean entersBefore(Ship other) {
            return entry < other.entry || entry == other.entry && number < other.number;
        }

        boolean isUnseenFrom(int hour) {
            return firstSightFrom(hour) == null;
        }

        boolean isSeenAround(int hour) {
            return lastSightBy(hour) != null && firstSightFrom(hour) != null;
        }

        Sight lastSightBy(int hour) {
            Sight last = null;
            for (int i = 0; i < sights.size(); i++) {
                Sight s = sights.get(i);
                if (s.hour <= hour) {
                    last = s;
                }
            }
            return last;
        }

        Sight firstSightFrom(int hour) {
            for (int i = 0; i < sights.size(); i++) {
                Sight s = sights.get(i);
                if (s.hour >= hour) {
                    return s;
                }
            }
            return null;
        }
    }

    /** What a captain does in some columns and rows, with a wind that is strong enough. */
    private static final class Order {
        final int way;
        private final int west;
        private final int east;
        private final int north;
        private final int south;
        private final int strength;

        Order(int west, int east, int north, int south, int strength, int way) {
            this.west = west;
            this.east = east;
            this.north = north;
            this.south = south;
            this.strength = strength;
            this.way = way;
        }

        boolean fits(int cell, int windStrength) {
            int column = cell % COLUMNS;
            int row = cell / COLUMNS;
            return column >= west && column <= east && row >= north && row <= south && windStrength >= strength;
        }
    }

    /** A line of a log: where a ship was at an hour. */
    private static final class Sight {
        final int cell;
        final int hour;

        Sight(int cell, int hour) {
            this.cell = cell;
            this.hour = hour;
        }
    }

    /**
     * The search for the least hours. Who leaves a cell earlier in the same way has never gone less at any
     * later hour, as no speed is below 0: so the earliest coming to each cell is all that must be kept.
     */
    private static final class Passage {
        private static final int UNREACHED = MOST_PASSAGE + 1;
        private final int[] hoursTo = new int[CELLS];
        private final boolean[] departed = new boolean[CELLS];

        int leastHours(Sea sea, Ship ship, int from, int to, int start) {
            if (outside(from, LAST_CELL) || outside(to, LAST_CELL)) {
                return NONE;
            }
            for (int cell = 0; cell < CELLS; cell++) {
                hoursTo[cell] = cell == from ? 0 : UNREACHED;
                departed[cell] = false;
            }
            for (int taken = 0; taken < CELLS; taken++) {
                int cell = earliestCell();
                if (cell == NONE || cell == to) {
                    break;
                }
                leave(sea, ship, cell, start);
            }
            return hoursTo[to] == UNREACHED ? NONE : hoursTo[to];
        }

        private void leave(Sea sea, Ship ship, int cell, int start) {
            if (outside(cell, LAST_CELL)) {
                return;
            }
            departed[cell] = true;
            for (int way = 0; way < WAYS; way++) {
                int next = sea.nextCell(cell, way);
                if (next != NONE) {
                    int come = comingHour(sea, ship, cell, way, start + hoursTo[cell], start + MOST_PASSAGE);
                    reach(next, come - start);
                }
            }
        }

        /** The hour at whose begin a ship that leaves a cell is in the next one; beyond the last one if it is not by then. */
        private static int comingHour(Sea sea, Ship ship, int cell, int way, int leaving, int last) {
            int left = needOf(way);
            for (int months = leaving / HOURS_OF_MONTH; months <= last / HOURS_OF_MONTH; months++) {
                int at = Math.max(leaving, months * HOURS_OF_MONTH);
                int hours = (months + 1) * HOURS_OF_MONTH - at;
                int speed = ship.speedIn(way, sea.windIn(monthOf(at), cell));
                if (speed * hours >= left) {
                    return at + hoursFor(left, speed);
                }
                left -= speed * hours;
            }
            return last + 1;
        }

        private static int hoursFor(int left, int speed) {
            return speed <= 0 ? UNREACHED : (left + speed - 1) / speed;
        }

        private void reach(int cell, int hours) {
            if (!outside(cell, LAST_CELL) && hours < hoursTo[cell]) {
                hoursTo[cell] = hours;
            }
        }

        /** Of the cells that are come to and not yet departed from, the one with the fewest hours; NONE if there is none. */
        private int earliestCell() {
            int best = NONE;
            int fewest = UNREACHED;
            for (int cell = 0; cell < CELLS; cell++) {
                if (!departed[cell] && hoursTo[cell] < fewest) {
                    best = cell;
                    fewest = hoursTo[cell];
                }
            }
            return best;
        }
    }
}
