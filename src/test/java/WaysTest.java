/** Terms, MOVERS: where the ways of DOORS, LIFTS and RISERS end, and the steps and waits on them. */
public final class WaysTest {
    private static final int NONE = MoverHall.NONE;
    private static final Check CHECK = new Check();
    private static final int FLOOR = 0;
    private static final int CEILING = 1;
    private static final int DOOR = 0;
    private static final int LIFT = 1;
    private static final int RISER = 2;

    public static void main(String[] args) {
        doorTop();
        doorTopOfALoneOne();
        liftBottom();
        riserTop();
        riserTopAtItsCeiling();
        endsAtTheRangesEnds();
        anEndOfMinusOne();
        endsAreThoseOfTheStart();
        endsAreOfNowAtTheStart();
        lastStepOfAnOpeningDoor();
        lastStepOfAClosingDoor();
        lastStepOfALiftThatSinks();
        lastStepOfALiftThatRises();
        lastStepOfARiser();
        doorWaitsTwentyTicks();
        liftWaitsThirtyTicks();
        liftGoesBackToWhereItWasStarted();
        riserStaysForGood();
        oneWithoutHeight();
        CHECK.done();
    }

    private static int end(MoverHall hall, int what) {
        hall.begin(0, what);
        return hall.of(0, 9);
    }

    /** "LOW CEILING - 4 when it was started, or its CEILING then, if that is higher" */
    private static void doorTop() {
        CHECK.is("far below", end(Halls.pair(0, 10, 0, 100), DOOR), 96);
        CHECK.is("1 below", end(Halls.pair(0, 95, 0, 100), DOOR), 96);
        CHECK.is("just there", end(Halls.pair(0, 96, 0, 100), DOOR), 96);
        CHECK.is("1 above", end(Halls.pair(0, 97, 0, 100), DOOR), 97);
        CHECK.is("far above", end(Halls.pair(0, 500, 0, 100), DOOR), 500);
        CHECK.is("by the lower of two", end(Halls.fourRooms(), DOOR), 100);
    }

    /** Its own CEILING is LOW CEILING then, and higher than LOW CEILING - 4. */
    private static void doorTopOfALoneOne() {
        CHECK.is("its ceiling", end(Halls.alone(0, 50), DOOR), 50);
    }

    /** "down to its BOTTOM, LOW FLOOR when it was started" */
    private static void liftBottom() {
        CHECK.is("far below", end(Halls.pair(0, 100, -300, 100), LIFT), -300);
        CHECK.is("1 below", end(Halls.pair(0, 100, -1, 100), LIFT), -1);
        CHECK.is("just there", end(Halls.pair(0, 100, 0, 100), LIFT), 0);
        CHECK.is("1 above", end(Halls.pair(0, 100, 1, 100), LIFT), 0);
        CHECK.is("of a lone one", end(Halls.alone(7, 100), LIFT), 7);
    }

    /** "up to its TOP, HIGH FLOOR when it was started" */
    private static void riserTop() {
        CHECK.is("1 above", end(Halls.pair(0, 100, 1, 100), RISER), 1);
        CHECK.is("just there", end(Halls.pair(0, 100, 0, 100), RISER), 0);
        CHECK.is("1 below", end(Halls.pair(0, 100, -1, 100), RISER), 0);
        CHECK.is("of a lone one", end(Halls.alone(7, 100), RISER), 7);
    }

    /** "or its CEILING then, if that is lower" */
    private static void riserTopAtItsCeiling() {
        CHECK.is("1 under it", end(Halls.pair(0, 20, 19, 100), RISER), 19);
        CHECK.is("just there", end(Halls.pair(0, 20, 20, 100), RISER), 20);
        CHECK.is("1 above it", end(Halls.pair(0, 20, 21, 100), RISER), 20);
    }

    private static void endsAtTheRangesEnds() {
        MoverHall door = Halls.pair(-1024, -1023, -1024, 1024);
        CHECK.is("highest top under a neighbour", end(door, DOOR), 1020);
        door.ticks(1000);
        CHECK.is("open, waited and shut", door.of(0, CEILING), -1024);
        MoverHall lift = Halls.pair(1023, 1024, -1024, 1024);
        CHECK.is("deepest bottom", end(lift, LIFT), -1024);
        lift.ticks(512);
        CHECK.is("down", lift.of(0, FLOOR), -1024);
        lift.ticks(1000);
        CHECK.is("back", lift.of(0, FLOOR), 1023);
        MoverHall riser = Halls.pair(-1024, 1024, 1023, 1024);
        CHECK.is("highest top", end(riser, RISER), 1023);
        riser.ticks(1000);
        riser.ticks(24);
        CHECK.is("up", riser.of(0, FLOOR), 1023);
        CHECK.is("ended", riser.of(0, 3), NONE);
    }

    /** A TOP or BOTTOM of -1 is a height like any other, though it reads as NONE. */
    private static void anEndOfMinusOne() {
        MoverHall[] halls = {Halls.pair(-9, -8, -9, 3), Halls.pair(6, 9, -1, 3), Halls.pair(-9, 3, -1, 3)};
        for (int what = 0; what < halls.length; what++) {
            CHECK.is("end of " + what, end(halls[what], what), -1);
            CHECK.is("it has a mover", halls[what].of(0, 3), what);
            halls[what].ticks(4);
            CHECK.is("it came there", halls[what].of(0, what == DOOR ? CEILING : FLOOR), -1);
        }
    }

    /** NEIGHBOURS that are joined later change LOW FLOOR and its like, but no way that has begun. */
    private static void endsAreThoseOfTheStart() {
        int[] due = {96, -20, 20};
        for (int what = 0; what < 3; what++) {
            MoverHall hall = Halls.pair(0, 80, what == LIFT ? -20 : 20, 100);
            hall.sector(-200, 90, 0, 0, 0);
            hall.sector(50, 90, 0, 0, 0);
            hall.begin(0, what);
            hall.ticks(1);
            hall.join(0, 2);
            hall.join(0, 3);
            hall.ticks(1);
            CHECK.is("low floor now", hall.of(0, 6), -200);
            CHECK.is("high floor now", hall.of(0, 7), 50);
            CHECK.is("low ceiling now", hall.of(0, 8), 90);
            CHECK.is("end of way of " + what, hall.of(0, 9), due[what]);
        }
    }

    /** What moves beside it counts as it is when the MOVER starts, not as THE PLAN has it. */
    private static void endsAreOfNowAtTheStart() {
        MoverHall door = Halls.pair(0, 10, 0, 40);
        door.sector(0, 100, 0, 0, 0);
        door.join(1, 2);
        door.join(0, 2);
        door.begin(1, DOOR);
        door.ticks(1);
        CHECK.is("by a ceiling that stands at 40", door.of(1, 9), 40);
        door.ticks(21);
        CHECK.is("it sinks", door.of(1, CEILING), 32);
        CHECK.is("top of a door", end(door, DOOR), 28);
        MoverHall heights = Halls.pair(0, 100, 30, 100);
        heights.sector(-30, 100, 0, 0, 0);
        heights.join(1, 2);
        heights.begin(1, LIFT);
        heights.ticks(3);
        CHECK.is("top of a riser", end(heights, RISER), 18);
        heights.ticks(2);
        CHECK.is("the same top", heights.of(0, 9), 18);
    }

    /** Follows a way tick by tick: "(The last step of a way may be shorter.)" */
    private static void follow(MoverHall hall, int height, int step, int to) {
        int mover = hall.of(0, 3);
        int way = step > 0 ? 1 : -1;
        int from = hall.of(0, height);
        int ticks = Math.max(1, (Math.abs(to - from) + Math.abs(step) - 1) / Math.abs(step));
        for (int tick = 1; tick < ticks; tick++) {
            hall.ticks(1);
            CHECK.is("a whole step", hall.of(0, height), from + tick * step);
            CHECK.is("it still goes", hall.of(0, 4), way);
            CHECK.is("its mover", hall.of(0, 3), mover);
        }
        hall.ticks(1);
        CHECK.is("the last step", hall.of(0, height), to);
        CHECK.is("it goes no more", hall.of(0, 4), 0);
    }

    /** "its CEILING rises 8 a TICK, up to its TOP" */
    private static void lastStepOfAnOpeningDoor() {
        for (int length = 0; length <= 25; length++) {
            MoverHall hall = Halls.pair(0, 10, 0, 14 + length);
            hall.begin(0, DOOR);
            follow(hall, CEILING, 8, 10 + length);
            CHECK.is("waits", hall.of(0, 5), 20);
        }
    }

    /** "its CEILING sinks 8 a TICK, down to its FLOOR; there it ends" */
    private static void lastStepOfAClosingDoor() {
        for (int length = 1; length <= 25; length++) {
            MoverHall hall = Halls.alone(-3, -3 + length);
            hall.begin(0, DOOR);
            hall.ticks(21);
            follow(hall, CEILING, -8, -3);
            CHECK.is("ended", hall.of(0, 3), NONE);
            CHECK.is("floor", hall.of(0, FLOOR), -3);
        }
    }

    /** "its FLOOR sinks 4 a TICK, down to its BOTTOM" */
    private static void lastStepOfALiftThatSinks() {
        for (int length = 0; length <= 13; length++) {
            MoverHall hall = Halls.pair(5, 100, 5 - length, 100);
            hall.begin(0, LIFT);
            follow(hall, FLOOR, -4, 5 - length);
            CHECK.is("waits", hall.of(0, 5), 30);
        }
    }

    /** "its FLOOR rises 4 a TICK, up to what it was when it was started; there it ends" */
    private static void lastStepOfALiftThatRises() {
        for (int length = 0; length <= 13; length++) {
            MoverHall hall = Halls.pair(5, 100, 5 - length, 100);
            hall.begin(0, LIFT);
            hall.ticks(Math.max(1, (length + 3) / 4) + 30);
            CHECK.is("it rises", hall.of(0, 4), 1);
            follow(hall, FLOOR, 4, 5);
            CHECK.is("ended", hall.of(0, 3), NONE);
        }
    }

    /** "its FLOOR rises 2 a TICK, up to its TOP" */
    private static void lastStepOfARiser() {
        for (int length = 0; length <= 7; length++) {
            MoverHall hall = Halls.pair(5, 100, 5 + length, 100);
            hall.begin(0, RISER);
            follow(hall, FLOOR, 2, 5 + length);
            CHECK.is("ended", hall.of(0, 3), NONE);
        }
    }

    /** "if it WAITS, one TICK less is left to wait, and if none is left it goes on from the next TICK on" */
    private static void waits(MoverHall hall, int height, int ticks, int wayOn, int step) {
        int stands = hall.of(0, height);
        for (int left = ticks; left > 0; left--) {
            CHECK.is("left to wait", hall.of(0, 5), left);
            CHECK.is("goes nowhere", hall.of(0, 4), 0);
            hall.ticks(1);
            CHECK.is("stands", hall.of(0, height), stands);
        }
        CHECK.is("none is left", hall.of(0, 5), 0);
        CHECK.is("goes on", hall.of(0, 4), wayOn);
        hall.ticks(1);
        CHECK.is("a step", hall.of(0, height), stands + step);
    }

    /** "there it WAITS 20 TICKS; then it goes DOWN" */
    private static void doorWaitsTwentyTicks() {
        MoverHall hall = Halls.pair(0, 10, 0, 100);
        hall.begin(0, DOOR);
        hall.ticks(11);
        waits(hall, CEILING, 20, -1, -8);
    }

    /** "there it WAITS 30 TICKS; then its FLOOR rises 4 a TICK" */
    private static void liftWaitsThirtyTicks() {
        MoverHall hall = Halls.pair(0, 100, -50, 100);
        hall.begin(0, LIFT);
        hall.ticks(13);
        waits(hall, FLOOR, 30, 1, 4);
    }

    /** "up to what it was when it was started": neither as THE PLAN has it nor HIGH FLOOR. */
    private static void liftGoesBackToWhereItWasStarted() {
        MoverHall hall = Halls.pair(0, 100, 7, 100);
        hall.sector(-10, 100, 0, 0, 0);
        hall.begin(0, RISER);
        hall.ticks(4);
        hall.join(0, 2);
        hall.sector(90, 100, 0, 0, 0);
        CHECK.is("the plan again", hall.of(0, FLOOR), 0);
        hall.begin(0, RISER);
        hall.ticks(4);
        CHECK.is("risen", hall.of(0, FLOOR), 7);
        hall.begin(0, LIFT);
        hall.join(0, 3);
        hall.ticks(5);
        CHECK.is("down", hall.of(0, FLOOR), -10);
        hall.ticks(30 + 4);
        CHECK.is("not yet back", hall.of(0, FLOOR), 6);
        hall.ticks(1);
        CHECK.is("back", hall.of(0, FLOOR), 7);
        CHECK.is("ended", hall.of(0, 3), NONE);
    }

    private static void riserStaysForGood() {
        MoverHall hall = Halls.pair(0, 100, 7, 100);
        hall.begin(0, RISER);
        hall.ticks(1000);
        CHECK.is("risen", hall.of(0, FLOOR), 7);
        CHECK.is("begin(0, 2)", hall.begin(0, RISER), true);
        hall.ticks(1);
        CHECK.is("no higher", hall.of(0, FLOOR), 7);
        CHECK.is("ended", hall.of(0, 3), NONE);
    }

    /** A shut DOOR, or a FLOOR risen to its CEILING, leaves nothing between: every MOVER may still start there. */
    private static void oneWithoutHeight() {
        for (int what = 0; what < 3; what++) {
            MoverHall hall = Halls.pair(0, 8, 0, 4);
            hall.begin(0, DOOR);
            hall.ticks(22);
            CHECK.is("shut", hall.of(0, CEILING), 0);
            CHECK.is("ended", hall.of(0, 3), NONE);
            CHECK.is("end of way of " + what, end(hall, what), 0);
            hall.ticks(1000);
            CHECK.is("ended again", hall.of(0, 3), NONE);
            CHECK.is("floor", hall.of(0, FLOOR), 0);
            CHECK.is("ceiling", hall.of(0, CEILING), 0);
        }
        MoverHall risen = Halls.pair(0, 8, 50, 60);
        risen.begin(0, RISER);
        risen.ticks(4);
        CHECK.is("risen to its ceiling", risen.of(0, FLOOR), 8);
        CHECK.is("no riser goes through it", end(risen, RISER), 8);
        risen.ticks(1);
        CHECK.is("a door opens there", end(risen, DOOR), 56);
        risen.ticks(6 + 20 + 6);
        CHECK.is("and shuts down to the floor", risen.of(0, CEILING), 8);
        CHECK.is("ended", risen.of(0, 3), NONE);
    }
}
