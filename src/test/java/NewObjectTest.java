/**
 * Promise 1: "No SECTORS.", and what each call answers then; Terms: "TICKS (0 at first)", "A GUEST is in one SECTOR, or
 * in none (at first)".
 */
public final class NewObjectTest {
    private static final Check CHECK = new Check();
    private static final int NONE = MoverHall.NONE;

    public static void main(String[] args) {
        constant();
        looks();
        noSectorToAskFor();
        noSectorToMove();
        callsThatNeedNoSector();
        objectsDoNotShare();
        CHECK.done();
    }

    private static void constant() {
        CHECK.is("NONE", MoverHall.NONE, -1);
    }

    private static void looks() {
        int[] due = {0, 0, 0, 0, NONE, 0};
        for (int which = 0; which < due.length; which++) {
            CHECK.is("look(" + which + ")", new MoverHall().look(which), due[which]);
        }
    }

    private static void noSectorToAskFor() {
        MoverHall hall = new MoverHall();
        int[] numbers = {-1, 0, 1, 31, 32};
        for (int number : numbers) {
            for (int what = 0; what < 10; what++) {
                CHECK.is("of(" + number + ", " + what + ")", hall.of(number, what), 100000);
            }
            CHECK.is("are(0, " + number + ")", hall.are(0, number), false);
            CHECK.is("open(0, " + number + ")", hall.open(0, number), false);
        }
    }

    private static void noSectorToMove() {
        MoverHall hall = new MoverHall();
        for (int what = 0; what < 3; what++) {
            CHECK.is("begin(0, " + what + ")", hall.begin(0, what), false);
            CHECK.is("tag(0, " + what + ")", hall.tag(0, what), 0);
        }
        CHECK.is("tag(0, 3)", hall.tag(0, 3), NONE);
        CHECK.is("join(0, 1)", hall.join(0, 1), false);
        CHECK.is("join(0, 0)", hall.join(0, 0), false);
        CHECK.is("enter(0)", hall.enter(0), false);
        CHECK.is("movers", hall.look(3), 0);
    }

    private static void callsThatNeedNoSector() {
        MoverHall hall = new MoverHall();
        CHECK.is("enter(NONE)", hall.enter(NONE), true);
        CHECK.is("ticks(0)", hall.ticks(0), 0);
        CHECK.is("ticks(5)", hall.ticks(5), 5);
        hall.reset();
        CHECK.is("ticks after reset()", hall.look(2), 0);
        hall.ticks(5);
        hall.clear();
        CHECK.is("ticks after clear()", hall.look(2), 0);
        hall.ticks(5);
        CHECK.is("the first sector", hall.sector(0, 1, 0, 0, 0), 0);
        CHECK.is("ticks after it", hall.look(2), 0);
    }

    private static void objectsDoNotShare() {
        MoverHall one = Halls.fourRooms();
        one.begin(0, 0);
        one.enter(0);
        one.ticks(3);
        CHECK.is("another object", Halls.picture(new MoverHall()), "0 0 0 0 -1 0 ");
    }
}
