/** Terms: THE LIGHT of each KIND, which of() tells as what 2. */
public final class LightTest {
    private static final Check CHECK = new Check();

    public static void main(String[] args) {
        kind0AlwaysLight();
        kind1FirstFourOfSixteen();
        kind1HalfRoundedDown();
        kind2EvenAndOddThirtyTwos();
        kind3LessTheMovers();
        kind3NoLessThanNone();
        kind3ItsOwnMoverToo();
        lateTicks();
        fromTheBeginningAgain();
        CHECK.done();
    }

    /** SECTOR 0 has the LIGHT and KIND; 31 others have none. */
    private static MoverHall lit(int light, int kind) {
        MoverHall hall = new MoverHall();
        hall.sector(0, 100, light, kind, 0);
        for (int i = 1; i < 32; i++) {
            hall.sector(0, 100, 0, 0, 1);
        }
        return hall;
    }

    /** "of KIND 0 always LIGHT" */
    private static void kind0AlwaysLight() {
        for (int light = 0; light < 16; light++) {
            MoverHall hall = lit(light, 0);
            hall.tag(1, 0);
            for (int tick = 0; tick < 70; tick++) {
                CHECK.is("steady at " + tick, hall.of(0, 2), light);
                hall.ticks(1);
            }
        }
    }

    /** "LIGHT in the first 4 of each 16 TICKS (TICKS 0 .. 3, 16 .. 19, ..)" */
    private static void kind1FirstFourOfSixteen() {
        MoverHall hall = lit(10, 1);
        int[] last = {3, 15, 19, 31, 35, 47};
        boolean bright = true;
        int tick = 0;
        for (int edge : last) {
            for (; tick <= edge; tick++) {
                CHECK.is("flickering at " + tick, hall.of(0, 2), bright ? 10 : 5);
                hall.ticks(1);
            }
            bright = !bright;
        }
    }

    /** "else half of it, rounded down" */
    private static void kind1HalfRoundedDown() {
        int[] due = {0, 0, 1, 1, 2, 2, 3, 3, 4, 4, 5, 5, 6, 6, 7, 7};
        for (int light = 0; light < due.length; light++) {
            MoverHall hall = lit(light, 1);
            CHECK.is("all of " + light, hall.of(0, 2), light);
            hall.ticks(4);
            CHECK.is("half of " + light, hall.of(0, 2), due[light]);
        }
    }

    /** "LIGHT if TICKS / 32, rounded down, is even, else 0" */
    private static void kind2EvenAndOddThirtyTwos() {
        for (int light = 0; light < 16; light++) {
            MoverHall hall = lit(light, 2);
            for (int tick = 0; tick < 160; tick++) {
                boolean bright = tick < 32 || tick >= 64 && tick < 96 || tick >= 128;
                CHECK.is("blinking at " + tick, hall.of(0, 2), bright ? light : 0);
                hall.ticks(1);
            }
        }
    }

    /** "LIGHT less the number of MOVERS" */
    private static void kind3LessTheMovers() {
        MoverHall hall = lit(15, 3);
        for (int movers = 0; movers <= 15; movers++) {
            CHECK.is("dimmed by " + movers, hall.of(0, 2), 15 - movers);
            hall.begin(31 - movers, 2);
        }
        hall.ticks(1);
        CHECK.is("they have ended", hall.of(0, 2), 15);
    }

    /** "0 at least" */
    private static void kind3NoLessThanNone() {
        MoverHall hall = lit(3, 3);
        int[] due = {3, 2, 1, 0, 0};
        for (int movers = 0; movers < due.length; movers++) {
            CHECK.is("dimmed by " + movers, hall.of(0, 2), due[movers]);
            hall.begin(1 + movers, 0);
        }
        hall.tag(1, 0);
        hall.begin(0, 0);
        CHECK.is("movers", hall.look(3), 32);
        CHECK.is("dimmed by 32", hall.of(0, 2), 0);
        CHECK.is("no light, no movers", lit(0, 3).of(0, 2), 0);
    }

    private static void kind3ItsOwnMoverToo() {
        MoverHall hall = lit(9, 3);
        hall.begin(0, 1);
        CHECK.is("dimmed by its own", hall.of(0, 2), 8);
        hall.ticks(1);
        CHECK.is("as it waits", hall.of(0, 2), 8);
        hall.ticks(31);
        CHECK.is("as it has ended", hall.of(0, 2), 9);
    }

    /** As late as 512 calls can come to. */
    private static void lateTicks() {
        MoverHall hall = new MoverHall();
        hall.sector(0, 100, 15, 1, 0);
        hall.sector(0, 100, 15, 2, 0);
        hall.sector(0, 100, 15, 3, 0);
        for (int i = 0; i < 500; i++) {
            hall.ticks(1000);
        }
        CHECK.is("500000 are whole thirty-twos", hall.look(2), 15625 * 32);
        CHECK.is("flickering", hall.of(0, 2), 15);
        CHECK.is("blinking, odd", hall.of(1, 2), 0);
        CHECK.is("dimmed by none", hall.of(2, 2), 15);
        hall.ticks(32);
        CHECK.is("blinking, even", hall.of(1, 2), 15);
    }

    private static void fromTheBeginningAgain() {
        MoverHall hall = new MoverHall();
        hall.sector(0, 100, 15, 1, 0);
        hall.sector(0, 100, 15, 2, 0);
        hall.sector(0, 100, 15, 3, 0);
        hall.begin(0, 0);
        hall.ticks(40);
        CHECK.is("half", hall.of(0, 2), 7);
        CHECK.is("none", hall.of(1, 2), 0);
        hall.reset();
        for (int i = 0; i < 3; i++) {
            CHECK.is("light of " + i, hall.of(i, 2), 15);
        }
    }
}
