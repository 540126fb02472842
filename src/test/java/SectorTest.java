/** Promise 2; RangesTest sees to what is none and to the 33rd SECTOR. */
public final class SectorTest {
    private static final Check CHECK = new Check();
    private static final int NONE = MoverHall.NONE;

    public static void main(String[] args) {
        itsNumber();
        refusedOnesTakeNoNumber();
        newOnesHaveNoNeighbours();
        stateBeginsAnew();
        stateBeginsAnewByTheLastOne();
        refusedOnesLeaveTheState();
        fullOnesLeaveTheState();
        CHECK.done();
    }

    private static void itsNumber() {
        MoverHall hall = new MoverHall();
        for (int i = 0; i < 32; i++) {
            CHECK.is("sector " + i, hall.sector(i, i + 1, i % 16, 0, i), i);
        }
        for (int i = 0; i < 32; i++) {
            CHECK.is("floor " + i, hall.of(i, 0), i);
            CHECK.is("ceiling " + i, hall.of(i, 1), i + 1);
            CHECK.is("light " + i, hall.of(i, 2), i % 16);
            CHECK.is("tag " + i, hall.tag(i, 0), 1);
            CHECK.is("mover of " + i, hall.of(i, 3), 0);
        }
    }

    private static void refusedOnesTakeNoNumber() {
        MoverHall hall = new MoverHall();
        CHECK.is("refused", hall.sector(0, 0, 0, 0, 0), NONE);
        CHECK.is("the first", hall.sector(0, 1, 0, 0, 0), 0);
        CHECK.is("refused", hall.sector(0, 1, 0, 0, 256), NONE);
        CHECK.is("the second", hall.sector(0, 1, 0, 0, 255), 1);
        CHECK.is("look(0)", hall.look(0), 2);
    }

    private static void newOnesHaveNoNeighbours() {
        MoverHall hall = Halls.fourRooms();
        hall.sector(0, 50, 1, 0, 0);
        CHECK.is("pairs stay", hall.look(1), 3);
        CHECK.is("are(0, 1)", hall.are(0, 1), true);
        for (int i = 0; i < 5; i++) {
            CHECK.is("are(" + i + ", 4)", hall.are(i, 4), false);
        }
    }

    private static MoverHall busyHall() {
        MoverHall hall = Halls.fourRooms();
        hall.begin(1, 0);
        hall.begin(2, 1);
        hall.enter(2);
        hall.ticks(5);
        return hall;
    }

    /** "THE STATE begins anew, as by reset()." */
    private static void stateBeginsAnew() {
        MoverHall hall = busyHall();
        hall.sector(0, 50, 1, 0, 0);
        MoverHall fresh = Halls.fourRooms();
        fresh.sector(0, 50, 1, 0, 0);
        CHECK.is("as in a new hall", Halls.picture(hall), Halls.picture(fresh));
        CHECK.is("ticks", hall.look(2), 0);
        CHECK.is("movers", hall.look(3), 0);
        CHECK.is("guest", hall.look(4), NONE);
        CHECK.is("ceiling of 1", hall.of(1, 1), 4);
        CHECK.is("floor of 2", hall.of(2, 0), 24);
    }

    private static void stateBeginsAnewByTheLastOne() {
        MoverHall hall = new MoverHall();
        for (int i = 0; i < 31; i++) {
            hall.sector(0, 100, 0, 0, 0);
        }
        hall.enter(30);
        hall.tag(0, 1);
        hall.ticks(9);
        CHECK.is("the 32nd", hall.sector(0, 100, 0, 0, 0), 31);
        CHECK.is("ticks", hall.look(2), 0);
        CHECK.is("movers", hall.look(3), 0);
        CHECK.is("guest", hall.look(4), NONE);
    }

    private static void refusedOnesLeaveTheState() {
        MoverHall hall = busyHall();
        String before = Halls.picture(hall);
        CHECK.is("refused", hall.sector(0, 0, 1, 0, 0), NONE);
        CHECK.is("nothing changed", Halls.picture(hall), before);
    }

    private static void fullOnesLeaveTheState() {
        MoverHall hall = Halls.full();
        hall.enter(31);
        hall.begin(31, 0);
        hall.ticks(3);
        String before = Halls.picture(hall);
        CHECK.is("refused", hall.sector(0, 1, 0, 0, 0), NONE);
        CHECK.is("nothing changed", Halls.picture(hall), before);
    }
}
