/** Promise 10; HeightsAroundTest, LightTest, TicksTest and WaysTest see to what of() answers as time goes on. */
public final class OfTest {
    private static final Check CHECK = new Check();

    public static void main(String[] args) {
        noSuchSector();
        noSuchWhat();
        noneOfBoth();
        noSectorsAtAll();
        withoutMover();
        withMover();
        whereItGoesAndHowLongItWaits();
        endOfItsWayThroughout();
        CHECK.done();
    }

    /** "100000 if there is no such SECTOR" */
    private static void noSuchSector() {
        MoverHall hall = Halls.fourRooms();
        int[] wrong = {-1, 4, 5, 31, 32, -32, Integer.MIN_VALUE, Integer.MAX_VALUE};
        for (int w : wrong) {
            for (int what = 0; what < 10; what++) {
                CHECK.is("of(" + w + ", " + what + ")", hall.of(w, what), 100000);
            }
        }
        CHECK.is("of(3, 0), the last", hall.of(3, 0), -40);
    }

    /** "100000 if there is no such .. what" */
    private static void noSuchWhat() {
        MoverHall hall = Halls.fourRooms();
        int[] wrong = {-1, -2, 10, 11, 16, Integer.MIN_VALUE, Integer.MAX_VALUE};
        for (int w : wrong) {
            for (int sector = 0; sector < 4; sector++) {
                CHECK.is("of(" + sector + ", " + w + ")", hall.of(sector, w), 100000);
            }
        }
    }

    private static void noneOfBoth() {
        MoverHall hall = Halls.fourRooms();
        CHECK.is("of(-1, -1)", hall.of(-1, -1), 100000);
        CHECK.is("of(4, 10)", hall.of(4, 10), 100000);
    }

    private static void noSectorsAtAll() {
        for (int what = -1; what <= 10; what++) {
            CHECK.is("of(0, " + what + ")", new MoverHall().of(0, what), 100000);
            CHECK.is("of(-1, " + what + ")", new MoverHall().of(-1, what), 100000);
        }
    }

    /** "NONE without one", "0 if it WAITS, or there is none", "0 if it does not", "NONE without a MOVER" */
    private static void withoutMover() {
        int[] due = {-7, 9, 15, -1, 0, 0, -7, -7, 9, -1};
        MoverHall hall = Halls.alone(-7, 9);
        for (int what = 0; what < due.length; what++) {
            CHECK.is("of(0, " + what + ")", hall.of(0, what), due[what]);
        }
        hall.begin(0, 2);
        hall.ticks(1);
        for (int what = 0; what < due.length; what++) {
            CHECK.is("of(0, " + what + ") of one that has ended", hall.of(0, what), due[what]);
        }
    }

    private static void withMover() {
        int[] ways = {1, -1, 1};
        int[] ends = {56, -10, 20};
        for (int what = 0; what < 3; what++) {
            MoverHall hall = Halls.pair(0, 50, what == 1 ? -10 : 20, 60);
            hall.begin(0, what);
            CHECK.is("mover", hall.of(0, 3), what);
            CHECK.is("way", hall.of(0, 4), ways[what]);
            CHECK.is("wait", hall.of(0, 5), 0);
            CHECK.is("end", hall.of(0, 9), ends[what]);
            CHECK.is("none beside it", hall.of(1, 3), MoverHall.NONE);
        }
    }

    /** "1 up, -1 down, 0 if it WAITS", "how long it still has to wait (0 if it does not)" */
    private static void whereItGoesAndHowLongItWaits() {
        MoverHall door = Halls.pair(0, 50, 0, 63);
        door.begin(0, 0);
        stands(door, 1, 1, 0);
        stands(door, 1, 0, 20);
        stands(door, 19, 0, 1);
        stands(door, 1, -1, 0);
        stands(door, 7, -1, 0);
        stands(door, 1, 0, 0);
        MoverHall lift = Halls.pair(0, 50, -8, 50);
        lift.begin(0, 1);
        stands(lift, 1, -1, 0);
        stands(lift, 1, 0, 30);
        stands(lift, 29, 0, 1);
        stands(lift, 1, 1, 0);
        stands(lift, 1, 1, 0);
        stands(lift, 1, 0, 0);
    }

    private static void stands(MoverHall hall, int ticks, int way, int wait) {
        int now = hall.ticks(ticks);
        CHECK.is("way at " + now, hall.of(0, 4), way);
        CHECK.is("wait at " + now, hall.of(0, 5), wait);
    }

    /** "TOP of a DOOR or RISER, BOTTOM of a LIFT", wherever on its way that is. */
    private static void endOfItsWayThroughout() {
        int[] due = {56, -10, 20};
        for (int what = 0; what < 3; what++) {
            MoverHall hall = Halls.pair(0, 50, what == 1 ? -10 : 20, 60);
            hall.begin(0, what);
            for (int tick = 0; tick < 100; tick++) {
                boolean moves = hall.of(0, 3) != MoverHall.NONE;
                CHECK.is("end at " + tick, hall.of(0, 9), moves ? due[what] : MoverHall.NONE);
                hall.ticks(1);
            }
            CHECK.is("ended", hall.of(0, 3), MoverHall.NONE);
        }
    }
}
