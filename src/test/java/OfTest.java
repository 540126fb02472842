/** Promise 10; BeginTest and TicksTest see to what 3, 4, 5 and 9 of it answer as time goes on. */
public final class OfTest {
    private static final Check CHECK = new Check();

    public static void main(String[] args) {
        wrongInputs();
        withoutMover();
        heightsAround();
        heightsAroundAreThoseOfNow();
        steadyLight();
        flickeringLight();
        blinkingLight();
        dimmedLight();
        CHECK.done();
    }

    private static void wrongInputs() {
        MoverHall hall = Halls.fourRooms();
        int[] wrong = {-1, 10, 32, Integer.MIN_VALUE, Integer.MAX_VALUE};
        for (int w : wrong) {
            CHECK.is("of(0, " + w + ")", hall.of(0, w), 100000);
            CHECK.is("of(" + w + ", 0)", hall.of(w, 0), 100000);
            CHECK.is("of(" + w + ", " + w + ")", hall.of(w, w), 100000);
        }
        CHECK.is("of(4, 3)", hall.of(4, 3), 100000);
    }

    private static void withoutMover() {
        MoverHall hall = Halls.alone(-7, 9);
        int[] due = {-7, 9, 15, -1, 0, 0, -7, -7, 9, -1};
        for (int what = 0; what < due.length; what++) {
            CHECK.is("of(0, " + what + ")", hall.of(0, what), due[what]);
        }
    }

    private static void heightsAround() {
        MoverHall hall = new MoverHall();
        hall.sector(0, 100, 0, 0, 0);
        hall.sector(-5, 200, 0, 0, 0);
        hall.sector(6, 150, 0, 0, 0);
        hall.sector(-1000, 1, 0, 0, 0);
        hall.join(0, 1);
        CHECK.is("low floor", hall.of(0, 6), -5);
        CHECK.is("high floor, its own", hall.of(0, 7), 0);
        CHECK.is("low ceiling, not its own", hall.of(0, 8), 200);
        hall.join(2, 0);
        CHECK.is("low floor", hall.of(0, 6), -5);
        CHECK.is("high floor", hall.of(0, 7), 6);
        CHECK.is("low ceiling", hall.of(0, 8), 150);
        CHECK.is("low floor, its own", hall.of(1, 6), -5);
        CHECK.is("low floor of one joined", hall.of(2, 6), 0);
        CHECK.is("high floor, its own", hall.of(2, 7), 6);
        MoverHall other = Halls.pair(10, 50, 0, 90);
        CHECK.is("high floor of SECTOR 0", other.of(1, 7), 10);
        CHECK.is("low ceiling of SECTOR 0", other.of(1, 8), 50);
        MoverHall high = Halls.pair(0, 5, 0, 1024);
        CHECK.is("highest low ceiling", high.of(0, 8), 1024);
    }

    private static void heightsAroundAreThoseOfNow() {
        MoverHall hall = Halls.pair(0, 100, 20, 40);
        hall.begin(1, 1);
        hall.ticks(2);
        CHECK.is("high floor", hall.of(0, 7), 12);
        hall.ticks(200);
        hall.begin(1, 0);
        hall.ticks(2);
        CHECK.is("low ceiling", hall.of(0, 8), 56);
    }

    private static MoverHall lit(int light, int kind) {
        MoverHall hall = new MoverHall();
        hall.sector(0, 100, light, kind, 0);
        for (int i = 0; i < 20; i++) {
            hall.sector(0, 100, 0, 0, 1);
        }
        return hall;
    }

    private static void steadyLight() {
        MoverHall hall = lit(11, 0);
        hall.tag(1, 0);
        for (int tick = 0; tick < 100; tick++) {
            CHECK.is("steady at " + tick, hall.of(0, 2), 11);
            hall.ticks(1);
        }
    }

    private static void flickeringLight() {
        for (int light = 0; light < 16; light++) {
            MoverHall hall = lit(light, 1);
            for (int tick = 0; tick < 40; tick++) {
                boolean bright = tick < 4 || tick >= 16 && tick < 20 || tick >= 32 && tick < 36;
                CHECK.is("flickering at " + tick, hall.of(0, 2), bright ? light : light >> 1);
                hall.ticks(1);
            }
        }
    }

    private static void blinkingLight() {
        MoverHall hall = lit(13, 2);
        for (int tick = 0; tick < 140; tick++) {
            boolean bright = tick < 32 || tick >= 64 && tick < 96 || tick >= 128;
            CHECK.is("blinking at " + tick, hall.of(0, 2), bright ? 13 : 0);
            hall.ticks(1);
        }
    }

    private static void dimmedLight() {
        MoverHall hall = lit(3, 3);
        int[] due = {3, 2, 1, 0, 0, 0};
        for (int movers = 0; movers < due.length; movers++) {
            CHECK.is("dimmed by " + movers, hall.of(0, 2), due[movers]);
            hall.begin(20 - movers, 2);
        }
        hall.ticks(1);
        CHECK.is("movers have ended", hall.of(0, 2), 3);
        hall.begin(0, 1);
        CHECK.is("dimmed by its own", hall.of(0, 2), 2);
    }
}
