/** Promise 6; WaysTest sees to the ends of the ways. */
public final class BeginTest {
    private static final int NONE = MoverHall.NONE;
    private static final Check CHECK = new Check();

    public static void main(String[] args) {
        noSuchSector();
        noSuchWhat();
        startedMovers();
        itHasOne();
        itHasAWaitingLift();
        otherMoversOnADoor();
        doorThatGoesUp();
        doorThatGoesUpAgain();
        doorThatWaits();
        doorThatHasOneTickLeftToWait();
        doorThatGoesDown();
        doorThatHasJustTurned();
        doorThatIsAlmostShut();
        doorThatHasEnded();
        topIsKept();
        oneThatHasEnded();
        CHECK.done();
    }

    /** "false if there is no such SECTOR" */
    private static void noSuchSector() {
        MoverHall hall = Halls.fourRooms();
        int[] wrong = {-1, 4, 5, 31, 32, -32, Integer.MIN_VALUE, Integer.MAX_VALUE};
        for (int w : wrong) {
            for (int what = 0; what < 3; what++) {
                CHECK.is("begin(" + w + ", " + what + ")", hall.begin(w, what), false);
            }
        }
        CHECK.is("movers", hall.look(3), 0);
        CHECK.is("begin(3, 0), the last", hall.begin(3, 0), true);
    }

    /** "false if there is no such .. what" */
    private static void noSuchWhat() {
        MoverHall hall = Halls.fourRooms();
        int[] wrong = {-1, 3, 4, 256, Integer.MIN_VALUE, Integer.MAX_VALUE};
        for (int w : wrong) {
            CHECK.is("begin(0, " + w + ")", hall.begin(0, w), false);
            CHECK.is("begin(-1, " + w + ")", hall.begin(-1, w), false);
        }
        CHECK.is("movers", hall.look(3), 0);
    }

    private static void startedMovers() {
        int[] ways = {1, -1, 1};
        for (int what = 0; what < 3; what++) {
            MoverHall hall = Halls.fourRooms();
            CHECK.is("begin(2, " + what + ")", hall.begin(2, what), true);
            CHECK.is("mover", hall.of(2, 3), what);
            CHECK.is("way of " + what, hall.of(2, 4), ways[what]);
            CHECK.is("wait", hall.of(2, 5), 0);
            CHECK.is("movers", hall.look(3), 1);
            CHECK.is("floor", hall.of(2, 0), 24);
            CHECK.is("ceiling", hall.of(2, 1), 120);
        }
    }

    private static void refused(MoverHall hall, int what) {
        String before = Halls.picture(hall);
        CHECK.is("begin(0, " + what + ")", hall.begin(0, what), false);
        CHECK.is("nothing changed", Halls.picture(hall), before);
    }

    /** "or it has one" */
    private static void itHasOne() {
        for (int first = 0; first < 3; first++) {
            for (int second = 0; second < 3; second++) {
                MoverHall hall = Halls.pair(0, 100, 8, 200);
                hall.begin(0, first);
                refused(hall, second);
            }
        }
    }

    private static void itHasAWaitingLift() {
        MoverHall lift = Halls.pair(0, 100, -4, 200);
        lift.begin(0, 1);
        lift.ticks(1);
        CHECK.is("the lift waits", lift.of(0, 5), 30);
        for (int what = 0; what < 3; what++) {
            refused(lift, what);
        }
        lift.ticks(30);
        CHECK.is("the lift goes up", lift.of(0, 4), 1);
        for (int what = 0; what < 3; what++) {
            refused(lift, what);
        }
    }

    /** Only a DOOR starts a DOOR anew. */
    private static void otherMoversOnADoor() {
        MoverHall door = Halls.pair(0, 100, 0, 104);
        door.begin(0, 0);
        door.ticks(2);
        CHECK.is("it waits", door.of(0, 5), 19);
        refused(door, 1);
        refused(door, 2);
        door.ticks(20);
        CHECK.is("it goes down", door.of(0, 4), -1);
        refused(door, 1);
        refused(door, 2);
        refused(door, 3);
    }

    private static void doorThatGoesUp() {
        MoverHall hall = Halls.pair(0, 100, 0, 204);
        hall.begin(0, 0);
        refused(hall, 0);
        hall.ticks(12);
        CHECK.is("one step is left", hall.of(0, 1), 196);
        refused(hall, 0);
    }

    /** Neither after a block nor after a second start is it to be started while it goes UP. */
    private static void doorThatGoesUpAgain() {
        MoverHall hall = Halls.alone(0, 60);
        hall.enter(0);
        hall.begin(0, 0);
        hall.ticks(22);
        CHECK.is("a step was blocked", hall.look(5), 1);
        refused(hall, 0);
        hall.ticks(1);
        CHECK.is("it waits", hall.of(0, 5), 20);
        CHECK.is("begin(0, 0)", hall.begin(0, 0), true);
        refused(hall, 0);
    }

    /** Starts SECTOR 0's DOOR anew, which goes UP from the next TICK on and is still one MOVER. */
    private static void startsAnew(MoverHall hall) {
        int ceiling = hall.of(0, 1);
        int top = hall.of(0, 9);
        CHECK.is("begin(0, 0)", hall.begin(0, 0), true);
        CHECK.is("one mover", hall.look(3), 1);
        CHECK.is("goes up", hall.of(0, 4), 1);
        CHECK.is("does not wait", hall.of(0, 5), 0);
        CHECK.is("the same ceiling", hall.of(0, 1), ceiling);
        CHECK.is("the same top", hall.of(0, 9), top);
        hall.ticks(1);
        CHECK.is("a step up", hall.of(0, 1), Math.min(top, ceiling + 8));
        hall.ticks((top - hall.of(0, 1) + 7) / 8);
        CHECK.is("at its top", hall.of(0, 1), top);
        CHECK.is("waits anew", hall.of(0, 5), 20);
    }

    /** "a DOOR that is started where a DOOR .. WAITS: it goes UP, to its TOP (true)" */
    private static void doorThatWaits() {
        MoverHall hall = Halls.pair(0, 100, 0, 108);
        hall.begin(0, 0);
        hall.ticks(1);
        CHECK.is("it waits", hall.of(0, 5), 20);
        startsAnew(hall);
        hall.ticks(5);
        CHECK.is("it waits", hall.of(0, 5), 15);
        startsAnew(hall);
    }

    private static void doorThatHasOneTickLeftToWait() {
        MoverHall hall = Halls.pair(0, 100, 0, 108);
        hall.begin(0, 0);
        hall.ticks(1 + 19);
        CHECK.is("it waits", hall.of(0, 5), 1);
        startsAnew(hall);
    }

    /** "a DOOR that is started where a DOOR goes DOWN ..: it goes UP, to its TOP (true)" */
    private static void doorThatGoesDown() {
        MoverHall hall = Halls.pair(0, 100, 0, 104);
        hall.begin(0, 0);
        hall.ticks(21 + 3);
        CHECK.is("ceiling", hall.of(0, 1), 76);
        CHECK.is("goes down", hall.of(0, 4), -1);
        startsAnew(hall);
    }

    private static void doorThatHasJustTurned() {
        MoverHall hall = Halls.pair(0, 100, 0, 104);
        hall.begin(0, 0);
        hall.ticks(21);
        CHECK.is("ceiling", hall.of(0, 1), 100);
        CHECK.is("goes down", hall.of(0, 4), -1);
        startsAnew(hall);
    }

    private static void doorThatIsAlmostShut() {
        MoverHall hall = Halls.pair(0, 97, 0, 101);
        hall.begin(0, 0);
        hall.ticks(21 + 12);
        CHECK.is("ceiling", hall.of(0, 1), 1);
        CHECK.is("goes down", hall.of(0, 4), -1);
        startsAnew(hall);
    }

    /** It is shut and has no MOVER any more: a new DOOR starts, with a TOP of its own. */
    private static void doorThatHasEnded() {
        MoverHall hall = Halls.pair(0, 97, 0, 80);
        hall.begin(0, 0);
        CHECK.is("top", hall.of(0, 9), 97);
        hall.ticks(21 + 13);
        CHECK.is("ended", hall.of(0, 3), NONE);
        CHECK.is("begin(0, 0)", hall.begin(0, 0), true);
        CHECK.is("one mover", hall.look(3), 1);
        CHECK.is("another top", hall.of(0, 9), 76);
    }

    /** A DOOR started anew keeps the TOP of its first start, though LOW CEILING is another one now. */
    private static void topIsKept() {
        MoverHall hall = Halls.pair(0, 40, 0, 54);
        hall.sector(0, 30, 0, 0, 0);
        hall.begin(0, 0);
        CHECK.is("top", hall.of(0, 9), 50);
        hall.ticks(2 + 20 + 2);
        CHECK.is("ceiling", hall.of(0, 1), 34);
        hall.join(0, 2);
        CHECK.is("low ceiling", hall.of(0, 8), 30);
        startsAnew(hall);
        CHECK.is("the top of its first start", hall.of(0, 1), 50);
    }

    private static void oneThatHasEnded() {
        for (int first = 0; first < 3; first++) {
            for (int second = 0; second < 3; second++) {
                MoverHall hall = Halls.alone(0, 8);
                hall.begin(0, first);
                hall.ticks(40);
                CHECK.is("ended", hall.of(0, 3), NONE);
                CHECK.is("begin " + second + " after " + first, hall.begin(0, second), true);
                CHECK.is("mover", hall.of(0, 3), second);
            }
        }
    }
}
