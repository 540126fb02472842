/** Promise 13; BlocksTest sees to look(5) as steps are blocked. */
public final class LookTest {
    private static final Check CHECK = new Check();
    private static final int NONE = MoverHall.NONE;

    public static void main(String[] args) {
        each();
        most();
        moversThatHaveEnded();
        anyOtherWhich();
        CHECK.done();
    }

    private static void each() {
        MoverHall hall = Halls.fourRooms();
        hall.begin(0, 1);
        hall.begin(1, 0);
        hall.enter(2);
        hall.ticks(1);
        int[] due = {4, 3, 1, 2, 2, 0};
        for (int which = 0; which < due.length; which++) {
            CHECK.is("look(" + which + ")", hall.look(which), due[which]);
        }
    }

    private static void most() {
        MoverHall hall = Halls.full();
        for (int i = 0; i < 31; i++) {
            hall.join(i, i + 1);
        }
        hall.tag(5, 1);
        hall.enter(31);
        int[] due = {32, 31, 0, 32, 31, 0};
        for (int which = 0; which < due.length; which++) {
            CHECK.is("look(" + which + ")", hall.look(which), due[which]);
        }
    }

    private static void moversThatHaveEnded() {
        MoverHall hall = Halls.pair(0, 100, 5, 100);
        hall.begin(0, 2);
        hall.begin(1, 2);
        int[] due = {2, 1, 1, 0, 0};
        for (int movers : due) {
            CHECK.is("movers at " + hall.look(2), hall.look(3), movers);
            hall.ticks(1);
        }
    }

    /** "NONE for any other which." */
    private static void anyOtherWhich() {
        MoverHall hall = Halls.fourRooms();
        hall.ticks(3);
        int[] wrong = {-1, -2, 6, 7, 8, 64, Integer.MIN_VALUE, Integer.MAX_VALUE};
        for (int w : wrong) {
            CHECK.is("look(" + w + ")", hall.look(w), NONE);
        }
    }
}
