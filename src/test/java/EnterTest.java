/** Promise 8. */
public final class EnterTest {
    private static final Check CHECK = new Check();
    private static final int NONE = MoverHall.NONE;

    public static void main(String[] args) {
        inASector();
        inNone();
        noSuchSector();
        theLastOfThirtyTwo();
        nothingElseChanges();
        CHECK.done();
    }

    private static void inASector() {
        MoverHall hall = Halls.fourRooms();
        CHECK.is("in none at first", hall.look(4), NONE);
        for (int sector = 0; sector < 4; sector++) {
            CHECK.is("enter(" + sector + ")", hall.enter(sector), true);
            CHECK.is("look(4)", hall.look(4), sector);
            CHECK.is("enter(" + sector + ") again", hall.enter(sector), true);
            CHECK.is("look(4)", hall.look(4), sector);
        }
    }

    /** "(or in none, by NONE)" */
    private static void inNone() {
        MoverHall hall = Halls.fourRooms();
        CHECK.is("enter(NONE), where it is", hall.enter(NONE), true);
        hall.enter(2);
        CHECK.is("enter(NONE)", hall.enter(NONE), true);
        CHECK.is("look(4)", hall.look(4), NONE);
        CHECK.is("enter(NONE) of an empty hall", new MoverHall().enter(NONE), true);
    }

    /** "false if there is no such SECTOR" */
    private static void noSuchSector() {
        MoverHall hall = Halls.fourRooms();
        hall.enter(3);
        int[] wrong = {-2, -32, 4, 5, 31, 32, Integer.MIN_VALUE, Integer.MAX_VALUE};
        for (int w : wrong) {
            CHECK.is("enter(" + w + ")", hall.enter(w), false);
            CHECK.is("still there", hall.look(4), 3);
        }
        CHECK.is("enter(0) of an empty hall", new MoverHall().enter(0), false);
        hall.clear();
        CHECK.is("enter(3) of a cleared hall", hall.enter(3), false);
        CHECK.is("in none", hall.look(4), NONE);
    }

    private static void theLastOfThirtyTwo() {
        MoverHall hall = Halls.full();
        CHECK.is("enter(31)", hall.enter(31), true);
        CHECK.is("enter(32)", hall.enter(32), false);
        CHECK.is("look(4)", hall.look(4), 31);
    }

    /** THE GUEST may come into a SECTOR of any height, whatever moves there. */
    private static void nothingElseChanges() {
        MoverHall hall = Halls.fourRooms();
        hall.begin(1, 0);
        hall.ticks(1);
        hall.enter(0);
        String before = Halls.picture(hall);
        CHECK.is("enter(1)", hall.enter(1), true);
        hall.enter(0);
        CHECK.is("nothing else", Halls.picture(hall), before);
    }
}
