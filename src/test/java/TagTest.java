/** Promise 7. */
public final class TagTest {
    private static final Check CHECK = new Check();
    private static final int NONE = MoverHall.NONE;

    public static void main(String[] args) {
        howManyDid();
        noSuchTag();
        noSuchWhat();
        aTagThatNoSectorHas();
        firstAndLastTag();
        allThirtyTwo();
        onlyThoseThatStart();
        noneOfThemStarts();
        doorsStartedAnew();
        CHECK.done();
    }

    private static void howManyDid() {
        MoverHall hall = Halls.fourRooms();
        CHECK.is("tag(9, 1)", hall.tag(9, 1), 2);
        CHECK.is("mover of 2", hall.of(2, 3), 1);
        CHECK.is("mover of 3", hall.of(3, 3), 1);
        CHECK.is("mover of 0", hall.of(0, 3), NONE);
        CHECK.is("movers", hall.look(3), 2);
        CHECK.is("tag(7, 0)", hall.tag(7, 0), 2);
        CHECK.is("movers", hall.look(3), 4);
    }

    /** "NONE if there is no such TAG": none of 0 .. 255 */
    private static void noSuchTag() {
        MoverHall hall = Halls.fourRooms();
        int[] wrong = {-1, -2, 256, 263, Integer.MIN_VALUE, Integer.MAX_VALUE};
        for (int tag : wrong) {
            for (int what = -1; what <= 3; what++) {
                CHECK.is("tag(" + tag + ", " + what + ")", hall.tag(tag, what), NONE);
            }
        }
        CHECK.is("movers", hall.look(3), 0);
    }

    /** "NONE if there is no such .. what", whether or not a SECTOR has the TAG */
    private static void noSuchWhat() {
        MoverHall hall = Halls.fourRooms();
        int[] wrong = {-1, 3, 4, Integer.MIN_VALUE, Integer.MAX_VALUE};
        for (int what : wrong) {
            CHECK.is("tag(7, " + what + ")", hall.tag(7, what), NONE);
            CHECK.is("tag(8, " + what + ")", hall.tag(8, what), NONE);
        }
        CHECK.is("movers", hall.look(3), 0);
    }

    private static void aTagThatNoSectorHas() {
        MoverHall hall = Halls.fourRooms();
        for (int what = 0; what < 3; what++) {
            CHECK.is("tag(8, " + what + ")", hall.tag(8, what), 0);
            CHECK.is("tag(0, " + what + ")", hall.tag(0, what), 0);
            CHECK.is("tag(255, " + what + ")", hall.tag(255, what), 0);
        }
        CHECK.is("movers", hall.look(3), 0);
    }

    private static void firstAndLastTag() {
        MoverHall hall = new MoverHall();
        hall.sector(0, 100, 0, 0, 0);
        hall.sector(0, 100, 0, 0, 255);
        CHECK.is("tag(255, 2)", hall.tag(255, 2), 1);
        CHECK.is("mover of 1", hall.of(1, 3), 2);
        CHECK.is("mover of 0", hall.of(0, 3), NONE);
        CHECK.is("tag(0, 1)", hall.tag(0, 1), 1);
        CHECK.is("mover of 0", hall.of(0, 3), 1);
    }

    private static void allThirtyTwo() {
        for (int what = 0; what < 3; what++) {
            MoverHall hall = Halls.full();
            CHECK.is("tag(5, " + what + ")", hall.tag(5, what), 32);
            CHECK.is("movers", hall.look(3), 32);
            CHECK.is("mover of 31", hall.of(31, 3), what);
            CHECK.is("tag(5, " + what + ") again", hall.tag(5, what), 0);
        }
    }

    /** "as by begin(): how many did" */
    private static void onlyThoseThatStart() {
        MoverHall hall = Halls.fourRooms();
        hall.begin(0, 2);
        CHECK.is("tag(7, 0)", hall.tag(7, 0), 1);
        CHECK.is("mover of 0", hall.of(0, 3), 2);
        CHECK.is("mover of 1", hall.of(1, 3), 0);
        CHECK.is("movers", hall.look(3), 2);
    }

    private static void noneOfThemStarts() {
        MoverHall hall = Halls.fourRooms();
        hall.tag(7, 0);
        String before = Halls.picture(hall);
        for (int what = 0; what < 3; what++) {
            CHECK.is("tag(7, " + what + ")", hall.tag(7, what), 0);
        }
        CHECK.is("nothing changed", Halls.picture(hall), before);
    }

    /** One DOOR waits, one goes down, one goes up; a LIFT is in their midst, and one has none. */
    private static void doorsStartedAnew() {
        MoverHall hall = new MoverHall();
        for (int i = 0; i < 5; i++) {
            hall.sector(0, 100, 0, 0, 5);
        }
        hall.begin(1, 0);
        hall.ticks(15);
        hall.begin(0, 0);
        hall.begin(3, 1);
        hall.ticks(10);
        hall.begin(2, 0);
        int[] ways = {0, -1, 1, 0, 0};
        for (int i = 0; i < ways.length; i++) {
            CHECK.is("way of " + i, hall.of(i, 4), ways[i]);
        }
        CHECK.is("tag(5, 0)", hall.tag(5, 0), 3);
        int[] waysNow = {1, 1, 1, 0, 1};
        int[] movers = {0, 0, 0, 1, 0};
        for (int i = 0; i < waysNow.length; i++) {
            CHECK.is("way of " + i + " now", hall.of(i, 4), waysNow[i]);
            CHECK.is("mover of " + i, hall.of(i, 3), movers[i]);
        }
        CHECK.is("movers", hall.look(3), 5);
    }
}
