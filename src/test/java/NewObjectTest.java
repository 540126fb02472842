/** Promise 1. */
public final class NewObjectTest {
    public static void main(String[] args) {
        Check check = new Check();
        int[] due = {0, 0, 0, 0, MoverHall.NONE, 0};
        for (int which = 0; which < due.length; which++) {
            check.is("look(" + which + ")", new MoverHall().look(which), due[which]);
        }
        for (int what = 0; what < 10; what++) {
            check.is("of(0, " + what + ")", new MoverHall().of(0, what), 100000);
        }
        check.is("NONE", MoverHall.NONE, -1);
        MoverHall one = new MoverHall();
        one.sector(0, 100, 1, 0, 0);
        check.is("look(0) of another object", new MoverHall().look(0), 0);
        check.done();
    }
}
