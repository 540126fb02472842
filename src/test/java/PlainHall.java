import java.util.ArrayList;
import java.util.HashSet;
import java.util.List;
import java.util.Set;

/** The document's words once more, as plainly as they can be told: nothing is kept that can be counted anew. */
final class PlainHall {
    private static final int NONE = -1;

    private enum Does { GOES_UP, WAITS, GOES_DOWN }

    private static final class Mover {
        int what;
        Does does;
        int left;
        int top;
        int bottom;
    }

    private static final class Place {
        int[] plan;
        int floor;
        int ceiling;
        Mover mover;
    }

    private final List<Place> places = new ArrayList<>();
    private final Set<Set<Integer>> pairs = new HashSet<>();
    private int ticks;
    private int blocked;
    private Place guest;

    int sector(int floor, int ceiling, int light, int kind, int tag) {
        boolean heights = Math.abs((long) floor) <= 1024 && Math.abs((long) ceiling) <= 1024 && floor < ceiling;
        boolean rest = light >= 0 && light < 16 && kind >= 0 && kind < 4 && tag >= 0 && tag < 256;
        if (!heights || !rest || places.size() == 32) {
            return NONE;
        }
        Place place = new Place();
        place.plan = new int[] {floor, ceiling, light, kind, tag};
        places.add(place);
        reset();
        return places.indexOf(place);
    }

    boolean join(int a, int b) {
        return place(a) != null && place(b) != null && a != b && pairs.add(Set.of(a, b));
    }

    void reset() {
        for (Place place : places) {
            place.floor = place.plan[0];
            place.ceiling = place.plan[1];
            place.mover = null;
        }
        ticks = 0;
        blocked = 0;
        guest = null;
    }

    void clear() {
        places.clear();
        pairs.clear();
        reset();
    }

    boolean begin(int sector, int what) {
        Place place = place(sector);
        if (place == null || what < 0 || what > 2) {
            return false;
        }
        Mover mover = place.mover;
        if (mover == null) {
            place.mover = newMover(sector, what);
            return true;
        }
        if (what != 0 || mover.what != 0 || mover.does == Does.GOES_UP) {
            return false;
        }
        mover.does = Does.GOES_UP;
        return true;
    }

    /** The heights between which it goes; a DOOR goes down to its FLOOR, which nothing moves meanwhile. */
    private Mover newMover(int sector, int what) {
        Place place = place(sector);
        Mover mover = new Mover();
        mover.what = what;
        mover.does = what == 1 ? Does.GOES_DOWN : Does.GOES_UP;
        if (what == 0) {
            mover.bottom = place.floor;
            mover.top = Math.max(of(sector, 8) - 4, place.ceiling);
        } else if (what == 1) {
            mover.bottom = of(sector, 6);
            mover.top = place.floor;
        } else {
            mover.top = Math.min(of(sector, 7), place.ceiling);
        }
        return mover;
    }

    int tag(int tag, int what) {
        if (tag < 0 || tag > 255 || what < 0 || what > 2) {
            return NONE;
        }
        int did = 0;
        for (int i = 0; i < places.size(); i++) {
            did += places.get(i).plan[4] == tag && begin(i, what) ? 1 : 0;
        }
        return did;
    }

    boolean enter(int sector) {
        if (sector != NONE && place(sector) == null) {
            return false;
        }
        guest = place(sector);
        return true;
    }

    int ticks(int n) {
        if (n < 0 || n > 1000) {
            return NONE;
        }
        for (int i = 0; i < n; i++) {
            ticks++;
            for (Place place : places) {
                if (place.mover != null) {
                    tick(place, place.mover);
                }
            }
        }
        return ticks;
    }

    private void tick(Place place, Mover mover) {
        if (mover.does == Does.WAITS) {
            mover.left--;
            if (mover.left == 0) {
                mover.does = mover.what == 0 ? Does.GOES_DOWN : Does.GOES_UP;
            }
            return;
        }
        boolean up = mover.does == Does.GOES_UP;
        int end = up ? mover.top : mover.bottom;
        int now = mover.what == 0 ? place.ceiling : place.floor;
        int then = now;
        for (int i = new int[] {8, 4, 2}[mover.what]; i > 0 && then != end; i--) {
            then += up ? 1 : -1;
        }
        int between = mover.what == 0 ? then - place.floor : place.ceiling - then;
        boolean couldBlock = up != (mover.what == 0);
        if (couldBlock && guest == place && between < 56) {
            blocked++;
            mover.does = Does.GOES_UP;
            return;
        }
        if (mover.what == 0) {
            place.ceiling = then;
        } else {
            place.floor = then;
        }
        if (then == end) {
            arrive(place, mover, up);
        }
    }

    private static void arrive(Place place, Mover mover, boolean up) {
        if (mover.what == 0 && up || mover.what == 1 && !up) {
            mover.does = Does.WAITS;
            mover.left = mover.what == 0 ? 20 : 30;
        } else {
            place.mover = null;
        }
    }

    int of(int sector, int what) {
        Place place = place(sector);
        if (place == null) {
            return 100000;
        }
        Mover mover = place.mover;
        switch (what) {
            case 0: return place.floor;
            case 1: return place.ceiling;
            case 2: return light(place.plan[2], place.plan[3]);
            case 3: return mover == null ? NONE : mover.what;
            case 4: return mover == null ? 0 : 1 - mover.does.ordinal();
            case 5: return mover == null || mover.does != Does.WAITS ? 0 : mover.left;
            case 6: return around(sector, 0, true).stream().min(Integer::compare).orElseThrow();
            case 7: return around(sector, 0, true).stream().max(Integer::compare).orElseThrow();
            case 8: return around(sector, 1, false).stream().min(Integer::compare).orElse(place.ceiling);
            case 9: return mover == null ? NONE : mover.what == 1 ? mover.bottom : mover.top;
            default: return 100000;
        }
    }

    /** FLOORS (what 0) or CEILINGS (1) of a SECTOR's NEIGHBOURS, and its own if that is to be among them. */
    private List<Integer> around(int sector, int what, boolean own) {
        List<Integer> heights = new ArrayList<>();
        for (int i = 0; i < places.size(); i++) {
            if (are(sector, i) || own && i == sector) {
                heights.add(what == 0 ? places.get(i).floor : places.get(i).ceiling);
            }
        }
        return heights;
    }

    private int light(int light, int kind) {
        switch (kind) {
            case 1: return (ticks & 15) <= 3 ? light : light >> 1;
            case 2: return (ticks & 32) == 0 ? light : 0;
            case 3: return light > movers() ? light - movers() : 0;
            default: return light;
        }
    }

    boolean are(int a, int b) {
        return a != b && pairs.contains(Set.of(a, b));
    }

    boolean open(int a, int b) {
        if (!are(a, b)) {
            return false;
        }
        Place from = place(a);
        Place to = place(b);
        boolean room = to.ceiling - to.floor >= 56 && to.ceiling - from.floor >= 56
                && from.ceiling - to.floor >= 56 && from.ceiling - from.floor >= 56;
        return room && from.floor + 24 >= to.floor;
    }

    int look(int which) {
        switch (which) {
            case 0: return places.size();
            case 1: return pairs.size();
            case 2: return ticks;
            case 3: return movers();
            case 4: return guest == null ? NONE : places.indexOf(guest);
            case 5: return blocked;
            default: return NONE;
        }
    }

    private int movers() {
        int count = 0;
        for (Place place : places) {
            count += place.mover == null ? 0 : 1;
        }
        return count;
    }

    private Place place(int sector) {
        return sector >= 0 && sector < places.size() ? places.get(sector) : null;
    }
}
