/** Sectors whose floors and ceilings move, tick by tick. The words in capitals are those of the document. */
public final class MoverHall {
    public static final int NONE = -1;

    private static final int NO_ANSWER = 100000;

    private static final int MOST_SECTORS = 32;
    private static final int LOWEST = -1024;
    private static final int HIGHEST = 1024;
    private static final int MOST_LIGHT = 15;
    private static final int LAST_KIND = 3;
    private static final int LAST_TAG = 255;
    private static final int MOST_TICKS = 1000;

    private static final int FLICKERING = 1;
    private static final int BLINKING = 2;
    private static final int DIMMED_BY_MOVERS = 3;

    private static final int DOOR = 0;
    private static final int LIFT = 1;
    private static final int RISER = 2;

    private static final int UP = 1;
    private static final int DOWN = -1;
    private static final int STILL = 0;

    private static final int DOOR_STEP = 8;
    private static final int LIFT_STEP = 4;
    private static final int RISER_STEP = 2;
    private static final int DOOR_WAIT = 20;
    private static final int LIFT_WAIT = 30;
    private static final int DOOR_GAP = 4;

    private static final int GUEST_HEIGHT = 56;
    private static final int GUEST_CLIMB = 24;

    private final Sector[] sectors;
    private int sectorCount;
    private int pairCount;
    private int tickCount;
    private int moverCount;
    private int blockedCount;
    private int guestSector;

    public MoverHall() {
        sectors = new Sector[MOST_SECTORS];
        for (int i = 0; i < MOST_SECTORS; i++) {
            sectors[i] = new Sector();
        }
        guestSector = NONE;
    }

    public int sector(int floor, int ceiling, int light, int kind, int tag) {
        if (sectorCount >= MOST_SECTORS || !isShape(floor, ceiling) || !isWithin(light, 0, MOST_LIGHT)
                || !isWithin(kind, 0, LAST_KIND) || !isWithin(tag, 0, LAST_TAG)) {
            return NONE;
        }
        int number = sectorCount;
        sectors[number].plan(floor, ceiling, light, kind, tag);
        sectorCount++;
        reset();
        return number;
    }

    public boolean join(int a, int b) {
        if (!isSector(a) || !isSector(b) || a == b || sectors[a].hasNeighbour(b)) {
            return false;
        }
        sectors[a].addNeighbour(b);
        sectors[b].addNeighbour(a);
        pairCount++;
        return true;
    }

    public void reset() {
        for (int i = 0; i < sectorCount; i++) {
            sectors[i].goBackToPlan();
        }
        tickCount = 0;
        moverCount = 0;
        blockedCount = 0;
        guestSector = NONE;
    }

    public void clear() {
        sectorCount = 0;
        pairCount = 0;
        reset();
    }

    public boolean begin(int sector, int what) {
        if (!isSector(sector) || !isMover(what)) {
            return false;
        }
        Sector place = sectors[sector];
        if (place.mover == NONE) {
            start(place, what);
            return true;
        }
        if (what == DOOR && place.mover == DOOR && place.way != UP) {
            place.go(UP);
            return true;
        }
        return false;
    }

    public int tag(int tag, int what) {
        if (!isWithin(tag, 0, LAST_TAG) || !isMover(what)) {
            return NONE;
        }
        int started = 0;
        for (int i = 0; i < sectorCount; i++) {
            if (sectors[i].tag == tag && begin(i, what)) {
                started++;
            }
        }
        return started;
    }

    public boolean enter(int sector) {
        if (sector != NONE && !isSector(sector)) {
            return false;
        }
        guestSector = sector;
        return true;
    }

    public int ticks(int n) {
        if (!isWithin(n, 0, MOST_TICKS)) {
            return NONE;
        }
        for (int i = 0; i < n; i++) {
            passOneTick();
        }
        return tickCount;
    }

    public int of(int sector, int what) {
        if (!isSector(sector)) {
            return NO_ANSWER;
        }
        Sector place = sectors[sector];
        switch (what) {
            case 0: return place.floor;
            case 1: return place.ceiling;
            case 2: return lightNow(place);
            case 3: return place.mover;
            case 4: return place.way;
            case 5: return place.waitLeft;
            case 6: return lowFloor(place);
            case 7: return highFloor(place);
            case 8: return lowCeiling(place);
            case 9: return place.wayEnd;
            default: return NO_ANSWER;
        }
    }

    public boolean are(int a, int b) {
        return isSector(a) && isSector(b) && sectors[a].hasNeighbour(b);
    }

    public boolean open(int a, int b) {
        if (!are(a, b)) {
            return false;
        }
        Sector from = sectors[a];
        Sector to = sectors[b];
        int room = Math.min(from.ceiling, to.ceiling) - Math.max(from.floor, to.floor);
        return to.floor - from.floor <= GUEST_CLIMB && room >= GUEST_HEIGHT;
    }

    public int look(int which) {
        switch (which) {
            case 0: return sectorCount;
            case 1: return pairCount;
            case 2: return tickCount;
            case 3: return moverCount;
            case 4: return guestSector;
            case 5: return blockedCount;
            default: return NONE;
        }
    }

    private static boolean isWithin(int value, int least, int most) {
        return value >= least && value <= most;
    }

    private static boolean isShape(int floor, int ceiling) {
        return floor >= LOWEST && floor < ceiling && ceiling <= HIGHEST;
    }

    private static boolean isMover(int what) {
        return isWithin(what, DOOR, RISER);
    }

    private boolean isSector(int number) {
        return number >= 0 && number < sectorCount;
    }

    private int lowFloor(Sector place) {
        int low = place.floor;
        for (int i = 0; i < sectorCount; i++) {
            if (place.hasNeighbour(i)) {
                low = Math.min(low, sectors[i].floor);
            }
        }
        return low;
    }

    private int highFloor(Sector place) {
        int high = place.floor;
        for (int i = 0; i < sectorCount; i++) {
            if (place.hasNeighbour(i)) {
                high = Math.max(high, sectors[i].floor);
            }
        }
        return high;
    }

    /** Unlike the floors, a SECTOR's own CEILING counts only where it has no NEIGHBOURS. */
    private int lowCeiling(Sector place) {
        if (!place.hasNeighbours()) {
            return place.ceiling;
        }
        int low = HIGHEST;
        for (int i = 0; i < sectorCount; i++) {
            if (place.hasNeighbour(i)) {
                low = Math.min(low, sectors[i].ceiling);
            }
        }
        return low;
    }

    private int lightNow(Sector place) {
        switch (place.kind) {
            case FLICKERING: return tickCount % 16 < 4 ? place.light : place.light / 2;
            case BLINKING: return tickCount / 32 % 2 == 0 ? place.light : 0;
            case DIMMED_BY_MOVERS: return Math.max(0, place.light - moverCount);
            default: return place.light;
        }
    }

    private void start(Sector place, int what) {
        place.mover = what;
        place.startFloor = place.floor;
        place.wayEnd = endOfWay(place, what);
        place.go(what == LIFT ? DOWN : UP);
        moverCount++;
    }

    private int endOfWay(Sector place, int what) {
        switch (what) {
            case DOOR: return Math.max(lowCeiling(place) - DOOR_GAP, place.ceiling);
            case LIFT: return lowFloor(place);
            default: return Math.min(highFloor(place), place.ceiling);
        }
    }

    private void finish(Sector place) {
        place.dropMover();
        moverCount--;
    }

    private void passOneTick() {
        tickCount++;
        if (moverCount == 0) {
            return;
        }
        for (int i = 0; i < sectorCount; i++) {
            move(sectors[i], i == guestSector);
        }
    }

    private void move(Sector place, boolean guestIsIn) {
        if (place.mover == NONE) {
            return;
        }
        if (place.waitLeft > 0) {
            place.waitOneTick();
            return;
        }
        switch (place.mover) {
            case DOOR:
                moveDoor(place, guestIsIn);
                break;
            case LIFT:
                moveLift(place, guestIsIn);
                break;
            default:
                raiseFloor(place, RISER_STEP, place.wayEnd, guestIsIn);
                break;
        }
    }

    private void moveDoor(Sector place, boolean guestIsIn) {
        if (place.way == DOWN) {
            closeDoor(place, guestIsIn);
            return;
        }
        place.ceiling = Math.min(place.ceiling + DOOR_STEP, place.wayEnd);
        if (place.ceiling == place.wayEnd) {
            place.waitFor(DOOR_WAIT);
        }
    }

    private void closeDoor(Sector place, boolean guestIsIn) {
        int ceiling = Math.max(place.ceiling - DOOR_STEP, place.floor);
        if (guestIsIn && ceiling - place.floor < GUEST_HEIGHT) {
            blockedCount++;
            place.go(UP);
            return;
        }
        place.ceiling = ceiling;
        if (ceiling == place.floor) {
            finish(place);
        }
    }

    private void moveLift(Sector place, boolean guestIsIn) {
        if (place.way == UP) {
            raiseFloor(place, LIFT_STEP, place.startFloor, guestIsIn);
            return;
        }
        place.floor = Math.max(place.floor - LIFT_STEP, place.wayEnd);
        if (place.floor == place.wayEnd) {
            place.waitFor(LIFT_WAIT);
        }
    }

    private void raiseFloor(Sector place, int step, int top, boolean guestIsIn) {
        int floor = Math.min(place.floor + step, top);
        if (guestIsIn && place.ceiling - floor < GUEST_HEIGHT) {
            blockedCount++;
            return;
        }
        place.floor = floor;
        if (floor == top) {
            finish(place);
        }
    }

    /** One SECTOR: what THE PLAN says of it, and what it is now. */
    private static final class Sector {
        private int plannedFloor;
        private int plannedCeiling;
        private int light;
        private int kind;
        private int tag;
        /** Bit n stands for SECTOR n: the 32 bits of an int are just enough for all. */
        private int neighbours;

        private int floor;
        private int ceiling;
        private int mover;
        private int way;
        private int waitLeft;
        private int wayEnd;
        private int startFloor;

        private void plan(int floor, int ceiling, int light, int kind, int tag) {
            plannedFloor = floor;
            plannedCeiling = ceiling;
            this.light = light;
            this.kind = kind;
            this.tag = tag;
            neighbours = 0;
        }

        private void goBackToPlan() {
            floor = plannedFloor;
            ceiling = plannedCeiling;
            dropMover();
        }

        private void dropMover() {
            mover = NONE;
            wayEnd = NONE;
            way = STILL;
            waitLeft = 0;
        }

        private boolean hasNeighbour(int number) {
            return (neighbours >>> number & 1) != 0;
        }

        private boolean hasNeighbours() {
            return neighbours != 0;
        }

        private void addNeighbour(int number) {
            neighbours |= 1 << number;
        }

        private void go(int direction) {
            way = direction;
            waitLeft = 0;
        }

        private void waitFor(int ticksToWait) {
            way = STILL;
            waitLeft = ticksToWait;
        }

        /** Only a DOOR that is up and a LIFT that is down ever wait, so the kind of MOVER tells the way back. */
        private void waitOneTick() {
            waitLeft--;
            if (waitLeft == 0) {
                way = mover == DOOR ? DOWN : UP;
            }
        }
    }
}
