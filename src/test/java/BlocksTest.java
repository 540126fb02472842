/** Terms, BLOCKS: where THE GUEST stands in the way; and look(5) of promise 13. */
public final class BlocksTest {
    private static final Check CHECK = new Check();
    private static final int NONE = MoverHall.NONE;
    private static final int DOOR = 0;
    private static final int LIFT = 1;
    private static final int RISER = 2;

    public static void main(String[] args) {
        doorThatLeavesFiftySixOrLess();
        doorGoesUpFromTheNextTickOn();
        doorGoesToTheSameTop();
        doorIsBlockedAgainAndAgain();
        liftThatLeavesFiftySixOrLess();
        liftTriesAgainAtTheNextTick();
        riserThatLeavesFiftySixOrLess();
        riserTriesAgainAtTheNextTick();
        shorterLastSteps();
        stepsOfNoLength();
        openingDoorsAreNotBlocked();
        sinkingLiftsAreNotBlocked();
        waitingIsNotBlocked();
        onlyWithTheGuestInIt();
        guestWhoComesAndGoes();
        blockedSinceTheStateBegan();
        blockedOneByOne();
        theLastSector();
        CHECK.done();
    }

    private static MoverHall guestIn(MoverHall hall, int mover) {
        hall.enter(0);
        hall.begin(0, mover);
        return hall;
    }

    /** "a step of a DOOR that goes DOWN .. that would leave less than 56 between FLOOR and CEILING, is not done" */
    private static void doorThatLeavesFiftySixOrLess() {
        for (int height = 60; height <= 70; height++) {
            MoverHall hall = guestIn(Halls.alone(-10, height - 10), DOOR);
            hall.ticks(22);
            boolean blocked = height - 8 < 56;
            CHECK.is("ceiling", hall.of(0, 1), height - 10 - (blocked ? 0 : 8));
            CHECK.is("way", hall.of(0, 4), blocked ? 1 : -1);
            CHECK.is("blocked", hall.look(5), blocked ? 1 : 0);
        }
    }

    /** "it goes UP again instead, from the next TICK on" */
    private static void doorGoesUpFromTheNextTickOn() {
        MoverHall hall = guestIn(Halls.alone(0, 90), DOOR);
        hall.ticks(1 + 20 + 4);
        CHECK.is("58", hall.of(0, 1), 58);
        CHECK.is("goes down", hall.of(0, 4), -1);
        hall.ticks(1);
        CHECK.is("not done", hall.of(0, 1), 58);
        CHECK.is("goes up", hall.of(0, 4), 1);
        CHECK.is("does not wait", hall.of(0, 5), 0);
        CHECK.is("still the same mover", hall.of(0, 3), DOOR);
        hall.ticks(1);
        CHECK.is("a step up", hall.of(0, 1), 66);
        hall.ticks(3);
        CHECK.is("at its top", hall.of(0, 1), 90);
        CHECK.is("waits", hall.of(0, 5), 20);
    }

    /** "to the same TOP", though LOW CEILING is another one now */
    private static void doorGoesToTheSameTop() {
        MoverHall hall = Halls.pair(0, 60, 0, 84);
        hall.sector(0, 30, 0, 0, 0);
        guestIn(hall, DOOR);
        hall.ticks(3 + 20 + 4);
        CHECK.is("blocked", hall.look(5), 1);
        hall.join(0, 2);
        CHECK.is("top", hall.of(0, 9), 80);
        hall.ticks(3);
        CHECK.is("at its top", hall.of(0, 1), 80);
        CHECK.is("waits", hall.of(0, 5), 20);
    }

    private static void doorIsBlockedAgainAndAgain() {
        MoverHall hall = guestIn(Halls.pair(0, 70, 0, 74), DOOR);
        hall.ticks(1);
        for (int round = 1; round <= 20; round++) {
            hall.ticks(20 + 1);
            CHECK.is("62 are enough", hall.of(0, 1), 62);
            hall.ticks(1);
            CHECK.is("blocked", hall.look(5), round);
            hall.ticks(1);
            CHECK.is("at its top", hall.of(0, 1), 70);
        }
        hall.enter(NONE);
        hall.ticks(20 + 9);
        CHECK.is("shut", hall.of(0, 1), 0);
        CHECK.is("ended", hall.of(0, 3), NONE);
        CHECK.is("blocked", hall.look(5), 20);
    }

    /** "A step upwards of a LIFT .. that would leave less than 56 there, with THE GUEST in it, is not done" */
    private static void liftThatLeavesFiftySixOrLess() {
        for (int height = 55; height <= 66; height++) {
            MoverHall hall = guestIn(Halls.pair(0, height - 8, -8, 100), LIFT);
            hall.ticks(2 + 30 + 1);
            boolean blocked = height - 4 < 56;
            CHECK.is("floor", hall.of(0, 0), blocked ? -8 : -4);
            CHECK.is("way", hall.of(0, 4), 1);
            CHECK.is("blocked", hall.look(5), blocked ? 1 : 0);
        }
    }

    /** "(it is tried again at the next TICK)" */
    private static void liftTriesAgainAtTheNextTick() {
        MoverHall hall = guestIn(Halls.pair(0, 50, -9, 90), LIFT);
        hall.ticks(3 + 30);
        CHECK.is("blocked", hall.look(5), 0);
        for (int tick = 1; tick <= 6; tick++) {
            hall.ticks(1);
            CHECK.is("not done", hall.of(0, 0), -9);
            CHECK.is("still goes up", hall.of(0, 4), 1);
            CHECK.is("does not wait", hall.of(0, 5), 0);
            CHECK.is("blocked", hall.look(5), tick);
        }
        hall.enter(1);
        hall.ticks(1);
        CHECK.is("free again", hall.of(0, 0), -5);
        hall.ticks(2);
        CHECK.is("back", hall.of(0, 0), 0);
        CHECK.is("ended", hall.of(0, 3), NONE);
        CHECK.is("blocked", hall.look(5), 6);
    }

    /** "A step upwards of .. a RISER that would leave less than 56 there, with THE GUEST in it, is not done" */
    private static void riserThatLeavesFiftySixOrLess() {
        for (int height = 54; height <= 62; height++) {
            MoverHall hall = guestIn(Halls.pair(-5, height - 5, 20, 100), RISER);
            hall.ticks(1);
            boolean blocked = height - 2 < 56;
            CHECK.is("floor", hall.of(0, 0), blocked ? -5 : -3);
            CHECK.is("mover", hall.of(0, 3), RISER);
            CHECK.is("way", hall.of(0, 4), 1);
            CHECK.is("blocked", hall.look(5), blocked ? 1 : 0);
        }
    }

    /** "(it is tried again at the next TICK)" */
    private static void riserTriesAgainAtTheNextTick() {
        MoverHall hall = guestIn(Halls.pair(0, 60, 7, 90), RISER);
        hall.ticks(2);
        CHECK.is("56 are enough", hall.of(0, 0), 4);
        CHECK.is("blocked", hall.look(5), 0);
        for (int tick = 1; tick <= 3; tick++) {
            hall.ticks(1);
            CHECK.is("not done", hall.of(0, 0), 4);
            CHECK.is("blocked", hall.look(5), tick);
            CHECK.is("still rises", hall.of(0, 4), 1);
        }
        hall.enter(NONE);
        hall.ticks(2);
        CHECK.is("up", hall.of(0, 0), 7);
        CHECK.is("ended", hall.of(0, 3), NONE);
    }

    /** What counts is what the step would leave, and the last one is shorter. */
    private static void shorterLastSteps() {
        MoverHall riser = guestIn(Halls.pair(0, 57, 1, 90), RISER);
        riser.ticks(1);
        CHECK.is("1 up leaves 56", riser.of(0, 0), 1);
        CHECK.is("ended", riser.of(0, 3), NONE);
        MoverHall lift = guestIn(Halls.pair(0, 56, -3, 90), LIFT);
        lift.ticks(1 + 30 + 1);
        CHECK.is("3 up leave 56", lift.of(0, 0), 0);
        CHECK.is("ended", lift.of(0, 3), NONE);
        CHECK.is("blocked", riser.look(5) + lift.look(5), 0);
        MoverHall low = guestIn(Halls.pair(0, 55, -3, 90), LIFT);
        low.ticks(1 + 30 + 1);
        CHECK.is("3 up would leave 55", low.of(0, 0), -3);
        MoverHall door = guestIn(Halls.alone(0, 5), DOOR);
        door.ticks(1 + 20 + 1);
        CHECK.is("5 down would leave 0", door.of(0, 1), 5);
        CHECK.is("blocked", low.look(5) + door.look(5), 2);
    }

    /** A step that leaves less than 56 is not done, even one that would change no height. */
    private static void stepsOfNoLength() {
        MoverHall riser = guestIn(Halls.alone(0, 55), RISER);
        riser.ticks(3);
        CHECK.is("riser stays", riser.of(0, 3), RISER);
        CHECK.is("blocked", riser.look(5), 3);
        MoverHall lift = guestIn(Halls.alone(0, 55), LIFT);
        lift.ticks(1 + 30 + 3);
        CHECK.is("lift stays", lift.of(0, 3), LIFT);
        CHECK.is("blocked", lift.look(5), 3);
        MoverHall shut = Halls.alone(0, 8);
        shut.begin(0, DOOR);
        shut.ticks(22);
        CHECK.is("shut and ended", shut.of(0, 3), NONE);
        guestIn(shut, DOOR);
        shut.ticks(22);
        CHECK.is("door goes up again", shut.of(0, 4), 1);
        CHECK.is("blocked", shut.look(5), 1);
        MoverHall high = guestIn(Halls.alone(0, 56), RISER);
        high.ticks(1);
        CHECK.is("56 are enough to end", high.of(0, 3), NONE);
    }

    private static void openingDoorsAreNotBlocked() {
        MoverHall door = guestIn(Halls.pair(0, 4, 0, 30), DOOR);
        door.ticks(1);
        CHECK.is("12", door.of(0, 1), 12);
        door.ticks(2);
        CHECK.is("at its top", door.of(0, 5), 20);
        CHECK.is("blocked", door.look(5), 0);
    }

    private static void sinkingLiftsAreNotBlocked() {
        MoverHall lift = guestIn(Halls.pair(0, 20, -30, 30), LIFT);
        lift.ticks(1);
        CHECK.is("24 between", lift.of(0, 0), -4);
        lift.ticks(7);
        CHECK.is("at its bottom", lift.of(0, 5), 30);
        CHECK.is("blocked", lift.look(5), 0);
    }

    private static void waitingIsNotBlocked() {
        MoverHall door = guestIn(Halls.alone(0, 20), DOOR);
        door.ticks(1 + 20);
        CHECK.is("it has waited", door.of(0, 4), -1);
        MoverHall lift = guestIn(Halls.alone(0, 20), LIFT);
        lift.ticks(1 + 30);
        CHECK.is("it has waited", lift.of(0, 4), 1);
        CHECK.is("blocked", door.look(5) + lift.look(5), 0);
    }

    /** "with THE GUEST in its SECTOR": neither in none nor in another one. */
    private static void onlyWithTheGuestInIt() {
        int[] elsewhere = {NONE, 1};
        for (int place : elsewhere) {
            for (int mover = 0; mover < 3; mover++) {
                MoverHall hall = Halls.pair(0, 20, mover == LIFT ? -8 : 30, 60);
                hall.enter(place);
                hall.begin(0, mover);
                hall.ticks(100);
                CHECK.is("ended", hall.of(0, 3), NONE);
                CHECK.is("blocked", hall.look(5), 0);
            }
        }
    }

    private static void guestWhoComesAndGoes() {
        MoverHall hall = Halls.alone(0, 60);
        hall.begin(0, DOOR);
        hall.ticks(1 + 20 + 3);
        CHECK.is("36", hall.of(0, 1), 36);
        hall.enter(0);
        hall.ticks(1);
        CHECK.is("blocked as the guest comes", hall.of(0, 1), 36);
        hall.enter(NONE);
        hall.ticks(1);
        CHECK.is("it goes up all the same", hall.of(0, 1), 44);
        hall.ticks(2 + 20);
        hall.enter(0);
        hall.enter(NONE);
        hall.ticks(8);
        CHECK.is("shut", hall.of(0, 1), 0);
        CHECK.is("blocked", hall.look(5), 1);
    }

    /** "steps that were blocked since the STATE began" */
    private static void blockedSinceTheStateBegan() {
        MoverHall hall = guestIn(Halls.alone(0, 20), RISER);
        hall.ticks(9);
        CHECK.is("blocked", hall.look(5), 9);
        hall.enter(NONE);
        hall.ticks(9);
        CHECK.is("blocked as before", hall.look(5), 9);
        hall.reset();
        CHECK.is("after reset()", hall.look(5), 0);
        guestIn(hall, RISER).ticks(2);
        CHECK.is("blocked anew", hall.look(5), 2);
        hall.sector(0, 0, 0, 0, 0);
        CHECK.is("after a sector that was refused", hall.look(5), 2);
        hall.sector(0, 1, 0, 0, 0);
        CHECK.is("after a new sector", hall.look(5), 0);
        guestIn(hall, RISER).ticks(3);
        hall.join(0, 1);
        CHECK.is("after join()", hall.look(5), 3);
        hall.clear();
        CHECK.is("after clear()", hall.look(5), 0);
    }

    private static void blockedOneByOne() {
        MoverHall hall = guestIn(Halls.alone(0, 20), RISER);
        hall.ticks(0);
        CHECK.is("none by ticks(0)", hall.look(5), 0);
        for (int i = 1; i <= 500; i++) {
            hall.ticks(1000);
        }
        CHECK.is("as many as ticks", hall.look(5), 500000);
    }

    private static void theLastSector() {
        MoverHall hall = Halls.full();
        hall.enter(31);
        hall.tag(5, DOOR);
        hall.ticks(1 + 20 + 6);
        CHECK.is("blocked", hall.look(5), 1);
        CHECK.is("goes up", hall.of(31, 4), 1);
        CHECK.is("goes down beside it", hall.of(30, 4), -1);
        hall.ticks(7);
        CHECK.is("the others have ended", hall.look(3), 1);
    }
}
