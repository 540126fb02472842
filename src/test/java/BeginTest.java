/** Promise 6, and the ends of the ways that "Terms" tells. */
public final class BeginTest {
    private static final int NONE = MoverHall.NONE;
    private static final Check CHECK = new Check();

    public static void main(String[] args) {
        wrongInputs();
        startedMovers();
        doorTop();
        liftBottom();
        riserTop();
        endsAreThoseOfTheStart();
        onlyDoorsStartAnew();
        doorStartedWhileItWaits();
        doorStartedWhileItGoesDown();
        topIsKept();
        CHECK.done();
    }

    private static void wrongInputs() {
        MoverHall hall = Halls.fourRooms();
        int[] wrong = {-1, 4, 32, Integer.MIN_VALUE, Integer.MAX_VALUE};
        for (int w : wrong) {
            CHECK.is("begin(" + w + ", 0)", hall.begin(w, 0), false);
            CHECK.is("begin(0, " + (w == 4 ? 3 : w) + ")", hall.begin(0, w == 4 ? 3 : w), false);
        }
        CHECK.is("movers", hall.look(3), 0);
    }

    private static void startedMovers() {
        int[] ways = {1, -1, 1};
        for (int what = 0; what < 3; what++) {
            MoverHall hall = Halls.fourRooms();
            CHECK.is("begin(2, " + what + ")", hall.begin(2, what), true);
            CHECK.is("mover", hall.of(2, 3), what);
            CHECK.is("way of " + what, hall.of(2, 4), ways[what]);
            CHECK.is("wait", hall.of(2, 5), 0);
            CHECK.is("movers", hall.look(3), 1);
            CHECK.is("floor", hall.of(2, 0), 24);
            CHECK.is("ceiling", hall.of(2, 1), 120);
        }
    }

    private static int end(MoverHall hall, int what) {
        hall.begin(0, what);
        return hall.of(0, 9);
    }

    private static void doorTop() {
        CHECK.is("top under a neighbour", end(Halls.pair(0, 10, 0, 100), 0), 96);
        CHECK.is("top of a higher one", end(Halls.pair(0, 98, 0, 100), 0), 98);
        CHECK.is("top just there", end(Halls.pair(0, 96, 0, 100), 0), 96);
        CHECK.is("top of a lone one", end(Halls.alone(0, 50), 0), 50);
        CHECK.is("top by the lower of two", end(Halls.fourRooms(), 0), 100);
        CHECK.is("top below 0", end(Halls.pair(-500, -400, 0, 3), 0), NONE);
    }

    private static void liftBottom() {
        CHECK.is("bottom at a neighbour", end(Halls.pair(0, 100, -30, 100), 1), -30);
        CHECK.is("bottom where it is", end(Halls.pair(0, 100, 30, 100), 1), 0);
        CHECK.is("bottom of a lone one", end(Halls.alone(7, 100), 1), 7);
    }

    private static void riserTop() {
        CHECK.is("top at a neighbour", end(Halls.pair(0, 100, 30, 100), 2), 30);
        CHECK.is("top where it is", end(Halls.pair(0, 100, -30, 100), 2), 0);
        CHECK.is("top at its ceiling", end(Halls.pair(0, 20, 30, 100), 2), 20);
        CHECK.is("top of a lone one", end(Halls.alone(7, 100), 2), 7);
    }

    /** NEIGHBOURS that are joined later change LOW FLOOR and its like, but no way that has begun. */
    private static void endsAreThoseOfTheStart() {
        int[] due = {96, -20, 20};
        for (int what = 0; what < 3; what++) {
            MoverHall hall = Halls.pair(0, 80, what == 1 ? -20 : 20, 100);
            hall.sector(-200, 90, 0, 0, 0);
            hall.sector(50, 90, 0, 0, 0);
            hall.begin(0, what);
            hall.ticks(1);
            hall.join(0, 2);
            hall.join(0, 3);
            hall.ticks(1);
            CHECK.is("low floor now", hall.of(0, 6), -200);
            CHECK.is("high floor now", hall.of(0, 7), 50);
            CHECK.is("low ceiling now", hall.of(0, 8), 90);
            CHECK.is("end of way of " + what, hall.of(0, 9), due[what]);
        }
    }

    private static void onlyDoorsStartAnew() {
        for (int first = 0; first < 3; first++) {
            for (int second = 0; second < 3; second++) {
                MoverHall hall = Halls.pair(0, 100, 8, 200);
                hall.begin(0, first);
                String before = Halls.picture(hall);
                CHECK.is("begin " + second + " on moving " + first, hall.begin(0, second), false);
                CHECK.is("nothing changed", Halls.picture(hall).equals(before), true);
            }
        }
        MoverHall lift = Halls.pair(0, 100, -4, 200);
        lift.begin(0, 1);
        lift.ticks(1);
        CHECK.is("the lift waits", lift.of(0, 5), 30);
        for (int second = 0; second < 3; second++) {
            CHECK.is("begin " + second + " on a waiting lift", lift.begin(0, second), false);
        }
        CHECK.is("it still waits", lift.of(0, 5), 30);
        MoverHall door = Halls.pair(0, 100, 0, 104);
        door.begin(0, 0);
        door.ticks(2);
        CHECK.is("lift on a waiting door", door.begin(0, 1), false);
        CHECK.is("riser on a waiting door", door.begin(0, 2), false);
        door.ticks(20);
        CHECK.is("lift on a closing door", door.begin(0, 1), false);
        CHECK.is("riser on a closing door", door.begin(0, 2), false);
        CHECK.is("it still closes", door.of(0, 4), -1);
    }

    private static void doorStartedWhileItWaits() {
        MoverHall hall = Halls.pair(0, 100, 0, 108);
        hall.begin(0, 0);
        hall.ticks(6);
        CHECK.is("waits", hall.of(0, 5), 15);
        CHECK.is("begin(0, 0)", hall.begin(0, 0), true);
        CHECK.is("one mover", hall.look(3), 1);
        CHECK.is("goes up", hall.of(0, 4), 1);
        CHECK.is("does not wait", hall.of(0, 5), 0);
        CHECK.is("ceiling", hall.of(0, 1), 104);
        CHECK.is("a second time", hall.begin(0, 0), false);
        hall.ticks(1);
        CHECK.is("ceiling stays", hall.of(0, 1), 104);
        CHECK.is("waits anew", hall.of(0, 5), 20);
    }

    private static void doorStartedWhileItGoesDown() {
        MoverHall hall = Halls.pair(0, 100, 0, 104);
        hall.begin(0, 0);
        hall.ticks(21 + 3);
        CHECK.is("ceiling", hall.of(0, 1), 76);
        CHECK.is("goes down", hall.of(0, 4), -1);
        CHECK.is("begin(0, 0)", hall.begin(0, 0), true);
        CHECK.is("goes up", hall.of(0, 4), 1);
        CHECK.is("one mover", hall.look(3), 1);
        hall.ticks(1);
        CHECK.is("a step up", hall.of(0, 1), 84);
        hall.ticks(2);
        CHECK.is("at its top", hall.of(0, 1), 100);
        CHECK.is("waits", hall.of(0, 5), 20);
    }

    /** A DOOR started anew keeps the TOP of its first start, though LOW CEILING is another one now. */
    private static void topIsKept() {
        MoverHall hall = Halls.pair(0, 40, 0, 54);
        hall.sector(0, 30, 0, 0, 0);
        hall.begin(0, 0);
        CHECK.is("top", hall.of(0, 9), 50);
        hall.ticks(2 + 20 + 2);
        CHECK.is("ceiling", hall.of(0, 1), 34);
        hall.join(0, 2);
        CHECK.is("low ceiling", hall.of(0, 8), 30);
        CHECK.is("begin(0, 0)", hall.begin(0, 0), true);
        CHECK.is("the same top", hall.of(0, 9), 50);
        hall.ticks(2);
        CHECK.is("at its top", hall.of(0, 1), 50);
        CHECK.is("waits", hall.of(0, 5), 20);
    }
}
