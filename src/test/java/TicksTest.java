/** Promise 9, and TICK of the Terms: whole ways, tick by tick. */
public final class TicksTest {
    private static final int NONE = MoverHall.NONE;
    private static final Check CHECK = new Check();

    public static void main(String[] args) {
        least();
        most();
        tooFewAndTooMany();
        wholeDoor();
        doorWithoutAWay();
        wholeLift();
        liftWithoutAWay();
        wholeRiser();
        riserWithoutAWay();
        manyTicksAreSingleTicks();
        moversOfOneTick();
        aThousandTicksAtOnce();
        CHECK.done();
    }

    /** "n TICKS, 0 .. 1000: TICKS" */
    private static void least() {
        MoverHall hall = Halls.fourRooms();
        hall.begin(1, 0);
        String before = Halls.picture(hall);
        CHECK.is("ticks(0)", hall.ticks(0), 0);
        CHECK.is("nothing has moved", Halls.picture(hall), before);
        hall.ticks(7);
        CHECK.is("ticks(0)", hall.ticks(0), 7);
        CHECK.is("ticks(1)", hall.ticks(1), 8);
    }

    private static void most() {
        MoverHall hall = Halls.fourRooms();
        CHECK.is("ticks(999)", hall.ticks(999), 999);
        CHECK.is("ticks(1000)", hall.ticks(1000), 1999);
        CHECK.is("look(2)", hall.look(2), 1999);
    }

    /** "NONE if there is no such n" */
    private static void tooFewAndTooMany() {
        MoverHall hall = Halls.fourRooms();
        hall.begin(1, 0);
        hall.ticks(3);
        int[] wrong = {-1, -2, 1001, 1002, Integer.MIN_VALUE, Integer.MAX_VALUE};
        for (int w : wrong) {
            CHECK.is("ticks(" + w + ")", hall.ticks(w), NONE);
            CHECK.is("look(2)", hall.look(2), 3);
            CHECK.is("ceiling", hall.of(1, 1), 28);
        }
    }

    private static void row(MoverHall hall, int tick, int what, int height, int mover, int way, int wait) {
        CHECK.is("tick", hall.ticks(1), tick);
        CHECK.is("height at " + tick, hall.of(0, what), height);
        CHECK.is("mover at " + tick, hall.of(0, 3), mover);
        CHECK.is("way at " + tick, hall.of(0, 4), way);
        CHECK.is("wait at " + tick, hall.of(0, 5), wait);
    }

    private static void wholeDoor() {
        MoverHall hall = Halls.pair(3, 10, 0, 35);
        hall.begin(0, 0);
        row(hall, 1, 1, 18, 0, 1, 0);
        row(hall, 2, 1, 26, 0, 1, 0);
        row(hall, 3, 1, 31, 0, 0, 20);
        for (int i = 1; i < 20; i++) {
            row(hall, 3 + i, 1, 31, 0, 0, 20 - i);
        }
        row(hall, 23, 1, 31, 0, -1, 0);
        CHECK.is("top while it goes down", hall.of(0, 9), 31);
        row(hall, 24, 1, 23, 0, -1, 0);
        row(hall, 25, 1, 15, 0, -1, 0);
        row(hall, 26, 1, 7, 0, -1, 0);
        row(hall, 27, 1, 3, NONE, 0, 0);
        CHECK.is("end of no way", hall.of(0, 9), NONE);
        CHECK.is("movers", hall.look(3), 0);
        row(hall, 28, 1, 3, NONE, 0, 0);
        CHECK.is("floor", hall.of(0, 0), 3);
        CHECK.is("it opens again", hall.begin(0, 0), true);
        row(hall, 29, 1, 11, 0, 1, 0);
    }

    /** It is at its TOP already: still "it takes a step", and only then "it WAITS .. from the next TICK on". */
    private static void doorWithoutAWay() {
        MoverHall hall = Halls.alone(0, 16);
        hall.begin(0, 0);
        CHECK.is("way", hall.of(0, 4), 1);
        row(hall, 1, 1, 16, 0, 0, 20);
        hall.ticks(19);
        row(hall, 21, 1, 16, 0, -1, 0);
        row(hall, 22, 1, 8, 0, -1, 0);
        row(hall, 23, 1, 0, NONE, 0, 0);
    }

    private static void wholeLift() {
        MoverHall hall = Halls.pair(5, 100, -4, 90);
        hall.begin(0, 1);
        row(hall, 1, 0, 1, 1, -1, 0);
        row(hall, 2, 0, -3, 1, -1, 0);
        row(hall, 3, 0, -4, 1, 0, 30);
        for (int i = 1; i < 30; i++) {
            row(hall, 3 + i, 0, -4, 1, 0, 30 - i);
        }
        row(hall, 33, 0, -4, 1, 1, 0);
        CHECK.is("bottom while it goes up", hall.of(0, 9), -4);
        row(hall, 34, 0, 0, 1, 1, 0);
        row(hall, 35, 0, 4, 1, 1, 0);
        row(hall, 36, 0, 5, NONE, 0, 0);
        CHECK.is("ceiling", hall.of(0, 1), 100);
        CHECK.is("end of no way", hall.of(0, 9), NONE);
        row(hall, 37, 0, 5, NONE, 0, 0);
    }

    private static void liftWithoutAWay() {
        MoverHall hall = Halls.alone(5, 100);
        hall.begin(0, 1);
        CHECK.is("way", hall.of(0, 4), -1);
        row(hall, 1, 0, 5, 1, 0, 30);
        hall.ticks(29);
        row(hall, 31, 0, 5, 1, 1, 0);
        row(hall, 32, 0, 5, NONE, 0, 0);
    }

    private static void wholeRiser() {
        MoverHall hall = Halls.pair(0, 100, 5, 100);
        hall.begin(0, 2);
        row(hall, 1, 0, 2, 2, 1, 0);
        row(hall, 2, 0, 4, 2, 1, 0);
        CHECK.is("top", hall.of(0, 9), 5);
        row(hall, 3, 0, 5, NONE, 0, 0);
        CHECK.is("end of no way", hall.of(0, 9), NONE);
        row(hall, 4, 0, 5, NONE, 0, 0);
        MoverHall low = Halls.pair(0, 3, 50, 100);
        low.begin(0, 2);
        row(low, 1, 0, 2, 2, 1, 0);
        row(low, 2, 0, 3, NONE, 0, 0);
        CHECK.is("ceiling", low.of(0, 1), 3);
    }

    private static void riserWithoutAWay() {
        MoverHall hall = Halls.alone(5, 100);
        hall.begin(0, 2);
        CHECK.is("mover", hall.of(0, 3), 2);
        row(hall, 1, 0, 5, NONE, 0, 0);
    }

    private static void manyTicksAreSingleTicks() {
        for (int n = 0; n <= 120; n++) {
            MoverHall once = Halls.fourRooms();
            MoverHall singly = Halls.fourRooms();
            once.tag(9, 1);
            singly.tag(9, 1);
            once.tag(7, 0);
            singly.tag(7, 0);
            once.ticks(n);
            for (int i = 0; i < n; i++) {
                singly.ticks(1);
            }
            CHECK.is(n + " ticks alike", Halls.picture(once), Halls.picture(singly));
        }
    }

    /** 32 MOVERS of which each is at its end: all end by one TICK. */
    private static void moversOfOneTick() {
        MoverHall hall = Halls.full();
        CHECK.is("tag(5, 2)", hall.tag(5, 2), 32);
        hall.ticks(1);
        CHECK.is("all ended", hall.look(3), 0);
    }

    /** A thousand TICKS go through several ways, waits and ends at once. */
    private static void aThousandTicksAtOnce() {
        MoverHall hall = Halls.fourRooms();
        hall.tag(7, 0);
        hall.tag(9, 1);
        hall.ticks(1000);
        CHECK.is("all ended", hall.look(3), 0);
        int[][] due = {{0, 0}, {0, 0}, {24, 120}, {-40, 90}};
        for (int i = 0; i < due.length; i++) {
            CHECK.is("floor of " + i, hall.of(i, 0), due[i][0]);
            CHECK.is("ceiling of " + i, hall.of(i, 1), due[i][1]);
        }
    }
}
