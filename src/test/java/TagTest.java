/** Promise 7. */
public final class TagTest {
    private static final Check CHECK = new Check();

    public static void main(String[] args) {
        ordinary();
        edgesAndWrongInputs();
        countsOnlyThoseThatStart();
        countsDoorsStartedAnew();
        CHECK.done();
    }

    private static void ordinary() {
        MoverHall hall = Halls.fourRooms();
        CHECK.is("tag(9, 1)", hall.tag(9, 1), 2);
        CHECK.is("mover of 2", hall.of(2, 3), 1);
        CHECK.is("mover of 3", hall.of(3, 3), 1);
        CHECK.is("mover of 0", hall.of(0, 3), MoverHall.NONE);
        CHECK.is("movers", hall.look(3), 2);
        CHECK.is("tag(7, 0)", hall.tag(7, 0), 2);
        CHECK.is("tag(8, 0)", hall.tag(8, 0), 0);
        CHECK.is("movers", hall.look(3), 4);
    }

    private static void edgesAndWrongInputs() {
        MoverHall hall = new MoverHall();
        hall.sector(0, 100, 0, 0, 0);
        hall.sector(0, 100, 0, 0, 255);
        int[] wrongTags = {-1, 256, Integer.MIN_VALUE, Integer.MAX_VALUE};
        for (int tag : wrongTags) {
            CHECK.is("tag(" + tag + ", 0)", hall.tag(tag, 0), MoverHall.NONE);
        }
        int[] wrongWhats = {-1, 3, Integer.MIN_VALUE, Integer.MAX_VALUE};
        for (int what : wrongWhats) {
            CHECK.is("tag(0, " + what + ")", hall.tag(0, what), MoverHall.NONE);
            CHECK.is("tag(1, " + what + ")", hall.tag(1, what), MoverHall.NONE);
        }
        CHECK.is("movers", hall.look(3), 0);
        CHECK.is("tag(1, 2)", hall.tag(1, 2), 0);
        CHECK.is("tag(255, 2)", hall.tag(255, 2), 1);
        CHECK.is("tag(0, 2)", hall.tag(0, 2), 1);
    }

    private static void countsOnlyThoseThatStart() {
        MoverHall hall = Halls.fourRooms();
        hall.begin(0, 2);
        CHECK.is("tag(7, 0)", hall.tag(7, 0), 1);
        CHECK.is("mover of 0", hall.of(0, 3), 2);
        CHECK.is("tag(7, 0) again", hall.tag(7, 0), 0);
        CHECK.is("tag(7, 1)", hall.tag(7, 1), 0);
    }

    private static void countsDoorsStartedAnew() {
        MoverHall hall = new MoverHall();
        for (int i = 0; i < 3; i++) {
            hall.sector(0, 100, 0, 0, 5);
        }
        hall.begin(0, 0);
        hall.ticks(1);
        hall.begin(1, 1);
        CHECK.is("tag(5, 0)", hall.tag(5, 0), 2);
        CHECK.is("way of 0", hall.of(0, 4), 1);
        CHECK.is("mover of 1", hall.of(1, 3), 1);
        CHECK.is("mover of 2", hall.of(2, 3), 0);
        CHECK.is("movers", hall.look(3), 3);
    }
}
