/** Promise 13; BlocksTest sees to look(5) as steps are blocked. */
public final class LookTest {
    public static void main(String[] args) {
        Check check = new Check();
        MoverHall hall = Halls.fourRooms();
        hall.begin(0, 1);
        hall.begin(1, 0);
        hall.enter(2);
        hall.ticks(1);
        int[] due = {4, 3, 1, 2, 2, 0};
        for (int which = 0; which < due.length; which++) {
            check.is("look(" + which + ")", hall.look(which), due[which]);
        }
        int[] wrong = {-1, 6, 7, Integer.MIN_VALUE, Integer.MAX_VALUE};
        for (int w : wrong) {
            check.is("look(" + w + ")", hall.look(w), MoverHall.NONE);
        }
        hall.ticks(500);
        check.is("all movers ended", hall.look(3), 0);
        check.done();
    }
}
