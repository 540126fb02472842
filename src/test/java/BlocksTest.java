/** Promise 9, where THE GUEST stands in the way; and look(5) of promise 13. */
public final class BlocksTest {
    private static final Check CHECK = new Check();

    public static void main(String[] args) {
        doorOverGuest();
        doorThatLeavesJustEnough();
        guestElsewhere();
        liftUnderGuest();
        riserUnderGuest();
        stepsThatAreNeverBlocked();
        stepsOfNoLength();
        CHECK.done();
    }

    private static void doorOverGuest() {
        MoverHall hall = Halls.pair(0, 70, 0, 74);
        hall.begin(0, 0);
        hall.enter(0);
        hall.ticks(21);
        CHECK.is("goes down", hall.of(0, 4), -1);
        hall.ticks(1);
        CHECK.is("62 are enough", hall.of(0, 1), 62);
        CHECK.is("blocked", hall.look(5), 0);
        hall.ticks(1);
        CHECK.is("54 are not", hall.of(0, 1), 62);
        CHECK.is("goes up instead", hall.of(0, 4), 1);
        CHECK.is("without waiting", hall.of(0, 5), 0);
        CHECK.is("to the same top", hall.of(0, 9), 70);
        CHECK.is("blocked", hall.look(5), 1);
        hall.ticks(1);
        CHECK.is("at its top", hall.of(0, 1), 70);
        CHECK.is("waits", hall.of(0, 5), 20);
        hall.ticks(22);
        CHECK.is("blocked again", hall.look(5), 2);
        hall.enter(MoverHall.NONE);
        hall.ticks(1 + 20 + 9);
        CHECK.is("shut", hall.of(0, 1), 0);
        CHECK.is("ended", hall.of(0, 3), MoverHall.NONE);
        CHECK.is("blocked", hall.look(5), 2);
    }

    private static void doorThatLeavesJustEnough() {
        MoverHall hall = Halls.alone(-10, 54);
        hall.begin(0, 0);
        hall.enter(0);
        hall.ticks(22);
        CHECK.is("56 are enough", hall.of(0, 1), 46);
        CHECK.is("blocked", hall.look(5), 0);
        hall.ticks(1);
        CHECK.is("48 are not", hall.of(0, 1), 46);
        CHECK.is("blocked", hall.look(5), 1);
        MoverHall odd = Halls.alone(-10, 53);
        odd.begin(0, 0);
        odd.enter(0);
        odd.ticks(22);
        CHECK.is("55 are not", odd.of(0, 1), 53);
        CHECK.is("blocked", odd.look(5), 1);
    }

    private static void guestElsewhere() {
        MoverHall hall = Halls.pair(0, 70, 20, 74);
        hall.enter(1);
        hall.begin(0, 0);
        hall.ticks(100);
        CHECK.is("shut", hall.of(0, 1), 0);
        CHECK.is("blocked", hall.look(5), 0);
    }

    private static void liftUnderGuest() {
        MoverHall hall = Halls.pair(0, 50, -9, 90);
        hall.begin(0, 1);
        hall.enter(0);
        hall.ticks(3);
        CHECK.is("down", hall.of(0, 0), -9);
        hall.ticks(30);
        CHECK.is("goes up", hall.of(0, 4), 1);
        CHECK.is("blocked", hall.look(5), 0);
        hall.ticks(1);
        CHECK.is("55 are not enough", hall.of(0, 0), -9);
        CHECK.is("still goes up", hall.of(0, 4), 1);
        CHECK.is("does not wait", hall.of(0, 5), 0);
        CHECK.is("blocked", hall.look(5), 1);
        hall.ticks(5);
        CHECK.is("blocked, tick by tick", hall.look(5), 6);
        CHECK.is("still there", hall.of(0, 0), -9);
        hall.enter(1);
        hall.ticks(1);
        CHECK.is("free again", hall.of(0, 0), -5);
        hall.ticks(2);
        CHECK.is("back", hall.of(0, 0), 0);
        CHECK.is("ended", hall.of(0, 3), MoverHall.NONE);
        CHECK.is("blocked", hall.look(5), 6);
    }

    private static void riserUnderGuest() {
        MoverHall hall = Halls.pair(0, 60, 7, 90);
        hall.begin(0, 2);
        hall.enter(0);
        hall.ticks(2);
        CHECK.is("56 are enough", hall.of(0, 0), 4);
        CHECK.is("blocked", hall.look(5), 0);
        hall.ticks(3);
        CHECK.is("54 are not", hall.of(0, 0), 4);
        CHECK.is("blocked", hall.look(5), 3);
        CHECK.is("still rises", hall.of(0, 3), 2);
        hall.enter(MoverHall.NONE);
        hall.ticks(2);
        CHECK.is("up", hall.of(0, 0), 7);
        CHECK.is("ended", hall.of(0, 3), MoverHall.NONE);
        hall.reset();
        CHECK.is("blocked since the state began", hall.look(5), 0);
    }

    private static void stepsThatAreNeverBlocked() {
        MoverHall door = Halls.pair(0, 4, 0, 30);
        door.enter(0);
        door.begin(0, 0);
        door.ticks(1);
        CHECK.is("a door that opens", door.of(0, 1), 12);
        MoverHall lift = Halls.pair(0, 20, -30, 30);
        lift.enter(0);
        lift.begin(0, 1);
        lift.ticks(1);
        CHECK.is("a lift that sinks", lift.of(0, 0), -4);
        CHECK.is("blocked", door.look(5) + lift.look(5), 0);
    }

    /** A step that leaves less than 56 is not done, even one that would change no height. */
    private static void stepsOfNoLength() {
        MoverHall riser = Halls.alone(0, 55);
        riser.enter(0);
        riser.begin(0, 2);
        riser.ticks(3);
        CHECK.is("riser stays", riser.of(0, 3), 2);
        CHECK.is("blocked", riser.look(5), 3);
        MoverHall lift = Halls.alone(0, 55);
        lift.enter(0);
        lift.begin(0, 1);
        lift.ticks(34);
        CHECK.is("lift stays", lift.of(0, 3), 1);
        CHECK.is("blocked", lift.look(5), 3);
        MoverHall door = Halls.alone(0, 8);
        door.begin(0, 0);
        door.ticks(22);
        CHECK.is("shut and ended", door.of(0, 3), MoverHall.NONE);
        door.begin(0, 0);
        door.enter(0);
        door.ticks(22);
        CHECK.is("door goes up again", door.of(0, 4), 1);
        CHECK.is("blocked", door.look(5), 1);
    }
}
