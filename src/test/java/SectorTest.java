/** Promise 2. */
public final class SectorTest {
    private static final Check CHECK = new Check();

    public static void main(String[] args) {
        numbers();
        edges();
        wrongInputs();
        stateBeginsAnew();
        refusedLeavesState();
        CHECK.done();
    }

    private static void numbers() {
        MoverHall hall = new MoverHall();
        for (int i = 0; i < 32; i++) {
            CHECK.is("sector " + i, hall.sector(i, i + 1, i % 16, i % 4, i), i);
        }
        CHECK.is("a 33rd sector", hall.sector(0, 1, 0, 0, 0), MoverHall.NONE);
        CHECK.is("look(0)", hall.look(0), 32);
        for (int i = 0; i < 32; i++) {
            CHECK.is("floor " + i, hall.of(i, 0), i);
            CHECK.is("ceiling " + i, hall.of(i, 1), i + 1);
        }
        CHECK.is("of(32, 0)", hall.of(32, 0), 100000);
    }

    private static void edges() {
        MoverHall hall = new MoverHall();
        CHECK.is("lowest", hall.sector(-1024, -1023, 0, 0, 0), 0);
        CHECK.is("highest", hall.sector(1023, 1024, 15, 3, 255), 1);
        CHECK.is("tallest", hall.sector(-1024, 1024, 15, 3, 255), 2);
    }

    private static void wrongInputs() {
        int[][] wrong = {
            {-1025, 0, 0, 0, 0}, {1025, 1026, 0, 0, 0}, {0, 1025, 0, 0, 0}, {-1026, -1025, 0, 0, 0},
            {1024, 1024, 0, 0, 0}, {0, 0, 0, 0, 0}, {1, 0, 0, 0, 0},
            {0, 1, -1, 0, 0}, {0, 1, 16, 0, 0}, {0, 1, 0, -1, 0}, {0, 1, 0, 4, 0},
            {0, 1, 0, 0, -1}, {0, 1, 0, 0, 256},
            {Integer.MIN_VALUE, 0, 0, 0, 0}, {0, Integer.MAX_VALUE, 0, 0, 0},
            {Integer.MIN_VALUE, Integer.MAX_VALUE, 0, 0, 0}, {0, 1, Integer.MIN_VALUE, 0, 0},
            {0, 1, 0, Integer.MAX_VALUE, 0}, {0, 1, 0, 0, Integer.MAX_VALUE},
        };
        MoverHall hall = new MoverHall();
        for (int[] w : wrong) {
            String call = "sector(" + w[0] + ", " + w[1] + ", " + w[2] + ", " + w[3] + ", " + w[4] + ")";
            CHECK.is(call, hall.sector(w[0], w[1], w[2], w[3], w[4]), MoverHall.NONE);
        }
        CHECK.is("look(0)", hall.look(0), 0);
    }

    private static MoverHall busyHall() {
        MoverHall hall = Halls.fourRooms();
        hall.begin(1, 0);
        hall.begin(2, 1);
        hall.enter(2);
        hall.ticks(5);
        return hall;
    }

    private static void stateBeginsAnew() {
        MoverHall hall = busyHall();
        CHECK.is("a fifth", hall.sector(0, 50, 1, 0, 0), 4);
        CHECK.is("ticks", hall.look(2), 0);
        CHECK.is("movers", hall.look(3), 0);
        CHECK.is("guest", hall.look(4), MoverHall.NONE);
        CHECK.is("ceiling of 1", hall.of(1, 1), 4);
        CHECK.is("floor of 2", hall.of(2, 0), 24);
        CHECK.is("pairs stay", hall.look(1), 3);
        CHECK.is("are(0, 1)", hall.are(0, 1), true);
        CHECK.is("are(3, 4)", hall.are(3, 4), false);
    }

    private static void refusedLeavesState() {
        MoverHall hall = busyHall();
        String before = Halls.picture(hall);
        CHECK.is("refused", hall.sector(0, 0, 1, 0, 0), MoverHall.NONE);
        CHECK.is("nothing changed", Halls.picture(hall).equals(before), true);
        while (hall.look(0) < 32) {
            hall.sector(0, 1, 0, 0, 0);
        }
        hall.ticks(3);
        CHECK.is("refused when full", hall.sector(0, 1, 0, 0, 0), MoverHall.NONE);
        CHECK.is("ticks stay", hall.look(2), 3);
    }
}
