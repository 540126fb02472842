/** Promises 4 and 5. */
public final class ResetAndClearTest {
    private static final Check CHECK = new Check();
    private static final int NONE = MoverHall.NONE;

    public static void main(String[] args) {
        resetGoesBackToPlan();
        resetAtAnyTick();
        resetOfNothing();
        runsAlikeAfterReset();
        clearLeavesNothing();
        clearOfNothing();
        clearOfAFullHall();
        sectorsAfterClearAreNew();
        CHECK.done();
    }

    private static void disturb(MoverHall hall, int ticks) {
        hall.begin(1, 0);
        hall.begin(2, 1);
        hall.begin(3, 2);
        hall.enter(1);
        hall.ticks(ticks);
    }

    /** "THE STATE is as THE PLAN says, without MOVERS, TICKS is 0, THE GUEST in none." */
    private static void resetGoesBackToPlan() {
        MoverHall hall = Halls.fourRooms();
        disturb(hall, 50);
        CHECK.is("a step was blocked", hall.look(5) > 0, true);
        hall.reset();
        int[][] heights = {{0, 100}, {0, 4}, {24, 120}, {-40, 90}};
        for (int i = 0; i < heights.length; i++) {
            CHECK.is("floor " + i, hall.of(i, 0), heights[i][0]);
            CHECK.is("ceiling " + i, hall.of(i, 1), heights[i][1]);
            CHECK.is("mover " + i, hall.of(i, 3), NONE);
            CHECK.is("way " + i, hall.of(i, 4), 0);
            CHECK.is("wait " + i, hall.of(i, 5), 0);
            CHECK.is("end " + i, hall.of(i, 9), NONE);
        }
        int[] due = {4, 3, 0, 0, NONE, 0};
        for (int which = 0; which < due.length; which++) {
            CHECK.is("look(" + which + ")", hall.look(which), due[which]);
        }
    }

    private static void resetAtAnyTick() {
        String fresh = Halls.picture(Halls.fourRooms());
        for (int ticks = 0; ticks <= 100; ticks++) {
            MoverHall hall = Halls.fourRooms();
            disturb(hall, ticks);
            CHECK.is("the state has changed", Halls.picture(hall).equals(fresh), false);
            hall.reset();
            CHECK.is("as the plan says, after " + ticks, Halls.picture(hall), fresh);
        }
    }

    private static void resetOfNothing() {
        MoverHall empty = new MoverHall();
        empty.reset();
        CHECK.is("no sectors", Halls.picture(empty), Halls.picture(new MoverHall()));
        MoverHall fresh = Halls.fourRooms();
        fresh.reset();
        fresh.reset();
        CHECK.is("nothing to undo", Halls.picture(fresh), Halls.picture(Halls.fourRooms()));
    }

    private static void runsAlikeAfterReset() {
        MoverHall hall = Halls.fourRooms();
        disturb(hall, 50);
        String first = Halls.picture(hall);
        hall.reset();
        disturb(hall, 50);
        CHECK.is("the same again", Halls.picture(hall), first);
    }

    /** "No SECTORS; THE STATE begins anew, as by reset()." */
    private static void clearLeavesNothing() {
        MoverHall hall = Halls.fourRooms();
        disturb(hall, 50);
        hall.clear();
        CHECK.is("as a new object", Halls.picture(hall), Halls.picture(new MoverHall()));
        for (int i = 0; i < 4; i++) {
            CHECK.is("of(" + i + ", 0)", hall.of(i, 0), 100000);
            CHECK.is("are(" + i + ", 1)", hall.are(i, 1), false);
            CHECK.is("open(2, " + i + ")", hall.open(2, i), false);
            CHECK.is("begin(" + i + ", 0)", hall.begin(i, 0), false);
            CHECK.is("enter(" + i + ")", hall.enter(i), false);
        }
        CHECK.is("tag(7, 0)", hall.tag(7, 0), 0);
    }

    private static void clearOfNothing() {
        MoverHall hall = new MoverHall();
        hall.clear();
        hall.clear();
        CHECK.is("as a new object", Halls.picture(hall), Halls.picture(new MoverHall()));
    }

    /** 32 SECTORS more fit then, and no 33rd. */
    private static void clearOfAFullHall() {
        MoverHall hall = Halls.full();
        hall.join(0, 31);
        hall.enter(31);
        hall.tag(5, 0);
        hall.clear();
        for (int i = 0; i < 32; i++) {
            CHECK.is("sector " + i, hall.sector(0, 10 + i, 0, 0, 0), i);
        }
        CHECK.is("a 33rd", hall.sector(0, 10, 0, 0, 0), NONE);
        CHECK.is("are(0, 31)", hall.are(0, 31), false);
        CHECK.is("tag(5, 0)", hall.tag(5, 0), 0);
        CHECK.is("tag(0, 0)", hall.tag(0, 0), 32);
    }

    private static void sectorsAfterClearAreNew() {
        MoverHall hall = Halls.fourRooms();
        disturb(hall, 50);
        hall.clear();
        CHECK.is("first number", hall.sector(5, 60, 3, 0, 1), 0);
        CHECK.is("second number", hall.sector(6, 70, 3, 0, 1), 1);
        CHECK.is("no mover", hall.of(1, 3), NONE);
        CHECK.is("no neighbours", hall.are(0, 1), false);
        CHECK.is("low ceiling", hall.of(0, 8), 60);
        CHECK.is("join(0, 1)", hall.join(0, 1), true);
        CHECK.is("pairs", hall.look(1), 1);
    }
}
