/** Promises 4 and 5. */
public final class ResetAndClearTest {
    private static final Check CHECK = new Check();

    public static void main(String[] args) {
        resetGoesBackToPlan();
        runsAlikeAfterReset();
        clearLeavesNothing();
        sectorsAfterClearAreNew();
        CHECK.done();
    }

    private static void disturb(MoverHall hall) {
        hall.begin(1, 0);
        hall.begin(2, 1);
        hall.begin(0, 2);
        hall.enter(1);
        hall.ticks(50);
    }

    private static void resetGoesBackToPlan() {
        MoverHall hall = Halls.fourRooms();
        String fresh = Halls.picture(hall);
        disturb(hall);
        CHECK.is("a step was blocked", hall.look(5) > 0, true);
        CHECK.is("the state has changed", Halls.picture(hall).equals(fresh), false);
        hall.reset();
        CHECK.is("as the plan says", Halls.picture(hall).equals(fresh), true);
        hall.reset();
        CHECK.is("as the plan says, again", Halls.picture(hall).equals(fresh), true);
    }

    private static void runsAlikeAfterReset() {
        MoverHall hall = Halls.fourRooms();
        disturb(hall);
        String first = Halls.picture(hall);
        hall.reset();
        disturb(hall);
        CHECK.is("the same again", Halls.picture(hall).equals(first), true);
    }

    private static void clearLeavesNothing() {
        MoverHall hall = Halls.fourRooms();
        disturb(hall);
        hall.clear();
        CHECK.is("as a new object", Halls.picture(hall).equals(Halls.picture(new MoverHall())), true);
        CHECK.is("of(0, 0)", hall.of(0, 0), 100000);
        CHECK.is("are(0, 1)", hall.are(0, 1), false);
        CHECK.is("begin(0, 0)", hall.begin(0, 0), false);
        CHECK.is("tag(7, 0)", hall.tag(7, 0), 0);
        CHECK.is("enter(0)", hall.enter(0), false);
    }

    private static void sectorsAfterClearAreNew() {
        MoverHall hall = Halls.fourRooms();
        disturb(hall);
        hall.clear();
        CHECK.is("first number", hall.sector(5, 60, 3, 0, 1), 0);
        CHECK.is("second number", hall.sector(6, 70, 3, 0, 1), 1);
        CHECK.is("no mover", hall.of(1, 3), MoverHall.NONE);
        CHECK.is("no neighbours", hall.are(0, 1), false);
        CHECK.is("low ceiling", hall.of(0, 8), 60);
        CHECK.is("join(0, 1)", hall.join(0, 1), true);
        CHECK.is("pairs", hall.look(1), 1);
    }
}
