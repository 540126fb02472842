/** Promise 8. */
public final class EnterTest {
    public static void main(String[] args) {
        Check check = new Check();
        MoverHall hall = Halls.fourRooms();
        for (int sector = 0; sector < 4; sector++) {
            check.is("enter(" + sector + ")", hall.enter(sector), true);
            check.is("look(4)", hall.look(4), sector);
        }
        int[] wrong = {-2, 4, 31, 32, Integer.MIN_VALUE, Integer.MAX_VALUE};
        for (int w : wrong) {
            check.is("enter(" + w + ")", hall.enter(w), false);
            check.is("still there", hall.look(4), 3);
        }
        check.is("enter(3) again", hall.enter(3), true);
        check.is("enter(NONE)", hall.enter(MoverHall.NONE), true);
        check.is("in none", hall.look(4), MoverHall.NONE);
        check.is("enter(NONE) again", hall.enter(MoverHall.NONE), true);
        check.is("enter(NONE) of an empty hall", new MoverHall().enter(MoverHall.NONE), true);
        check.is("enter(0) of an empty hall", new MoverHall().enter(0), false);
        check.done();
    }
}
