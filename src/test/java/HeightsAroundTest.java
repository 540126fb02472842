/** Terms: LOW FLOOR, HIGH FLOOR and LOW CEILING, which of() tells as what 6, 7 and 8. */
public final class HeightsAroundTest {
    private static final Check CHECK = new Check();
    private static final int LOW_FLOOR = 6;
    private static final int HIGH_FLOOR = 7;
    private static final int LOW_CEILING = 8;

    public static void main(String[] args) {
        lowFloorWithoutNeighbours();
        lowFloorOfANeighbourOrItsOwn();
        highFloorWithoutNeighbours();
        highFloorOfANeighbourOrItsOwn();
        lowCeilingWithoutNeighbours();
        lowCeilingOfANeighbourNeverItsOwn();
        ofSeveralNeighbours();
        ofNeighboursAlone();
        ofTheFirstAndTheLastSector();
        lowestAndHighest();
        asTheyAreNow();
        CHECK.done();
    }

    private static int lone(int floor, int ceiling, int what) {
        MoverHall hall = Halls.alone(floor, ceiling);
        hall.sector(-900, -800, 0, 0, 0);
        hall.sector(800, 900, 0, 0, 0);
        return hall.of(0, what);
    }

    private static int beside(int floor, int ceiling, int otherFloor, int otherCeiling, int what) {
        return Halls.pair(floor, ceiling, otherFloor, otherCeiling).of(0, what);
    }

    private static void lowFloorWithoutNeighbours() {
        CHECK.is("its own", lone(5, 50, LOW_FLOOR), 5);
    }

    /** "the lowest FLOOR (as it is now) of its NEIGHBOURS, or its own, whichever is lower" */
    private static void lowFloorOfANeighbourOrItsOwn() {
        CHECK.is("1 lower beside it", beside(0, 50, -1, 50, LOW_FLOOR), -1);
        CHECK.is("as low beside it", beside(0, 50, 0, 50, LOW_FLOOR), 0);
        CHECK.is("1 higher beside it", beside(0, 50, 1, 50, LOW_FLOOR), 0);
    }

    private static void highFloorWithoutNeighbours() {
        CHECK.is("its own", lone(5, 50, HIGH_FLOOR), 5);
    }

    /** "the highest one of its NEIGHBOURS, or its own if that is higher" */
    private static void highFloorOfANeighbourOrItsOwn() {
        CHECK.is("1 lower beside it", beside(0, 50, -1, 50, HIGH_FLOOR), 0);
        CHECK.is("as high beside it", beside(0, 50, 0, 50, HIGH_FLOOR), 0);
        CHECK.is("1 higher beside it", beside(0, 50, 1, 50, HIGH_FLOOR), 1);
        CHECK.is("above its ceiling", beside(0, 50, 70, 90, HIGH_FLOOR), 70);
    }

    /** "(its own, if it has none)" */
    private static void lowCeilingWithoutNeighbours() {
        CHECK.is("its own", lone(5, 50, LOW_CEILING), 50);
        CHECK.is("the lowest", lone(-1024, -1023, LOW_CEILING), -1023);
        CHECK.is("the highest", lone(5, 1024, LOW_CEILING), 1024);
    }

    /** "the lowest CEILING of its NEIGHBOURS": its own does not count beside one, be it lower or higher. */
    private static void lowCeilingOfANeighbourNeverItsOwn() {
        CHECK.is("1 lower beside it", beside(0, 50, 0, 49, LOW_CEILING), 49);
        CHECK.is("as low beside it", beside(0, 50, 0, 50, LOW_CEILING), 50);
        CHECK.is("1 higher beside it", beside(0, 50, 0, 51, LOW_CEILING), 51);
        CHECK.is("below its floor", beside(0, 50, -90, -70, LOW_CEILING), -70);
        CHECK.is("the highest beside it", beside(0, 50, 0, 1024, LOW_CEILING), 1024);
    }

    private static void ofSeveralNeighbours() {
        int[][] others = {{-7, 70}, {30, 60}, {-9, 90}, {20, 80}};
        for (int first = 0; first < others.length; first++) {
            MoverHall hall = Halls.alone(0, 50);
            for (int i = 0; i < others.length; i++) {
                int[] other = others[(first + i) % others.length];
                hall.sector(other[0], other[1], 0, 0, 0);
                hall.join(0, i + 1);
            }
            CHECK.is("low floor", hall.of(0, LOW_FLOOR), -9);
            CHECK.is("high floor", hall.of(0, HIGH_FLOOR), 30);
            CHECK.is("low ceiling", hall.of(0, LOW_CEILING), 60);
        }
    }

    /** Only the NEIGHBOURS count, not their NEIGHBOURS and not the SECTORS beside none. */
    private static void ofNeighboursAlone() {
        MoverHall hall = Halls.pair(0, 50, 1, 60);
        hall.sector(-500, -400, 0, 0, 0);
        hall.sector(400, 500, 0, 0, 0);
        hall.join(1, 2);
        hall.join(3, 1);
        hall.sector(-600, 600, 0, 0, 0);
        CHECK.is("low floor", hall.of(0, LOW_FLOOR), 0);
        CHECK.is("high floor", hall.of(0, HIGH_FLOOR), 1);
        CHECK.is("low ceiling", hall.of(0, LOW_CEILING), 60);
        CHECK.is("low floor of 1", hall.of(1, LOW_FLOOR), -500);
        CHECK.is("high floor of 1", hall.of(1, HIGH_FLOOR), 400);
        CHECK.is("low ceiling of 1", hall.of(1, LOW_CEILING), -400);
    }

    private static void ofTheFirstAndTheLastSector() {
        MoverHall hall = Halls.full();
        hall.join(31, 0);
        CHECK.is("low floor of 31", hall.of(31, LOW_FLOOR), 0);
        CHECK.is("low ceiling of 31", hall.of(31, LOW_CEILING), 100);
        CHECK.is("high floor of 0", hall.of(0, HIGH_FLOOR), 31);
        CHECK.is("low ceiling of 0", hall.of(0, LOW_CEILING), 131);
        CHECK.is("low floor of 30", hall.of(30, LOW_FLOOR), 30);
        MoverHall stairs = Halls.pair(10, 50, 0, 90);
        CHECK.is("high floor beside 0", stairs.of(1, HIGH_FLOOR), 10);
    }

    private static void lowestAndHighest() {
        CHECK.is("low floor", beside(0, 50, -1024, 1024, LOW_FLOOR), -1024);
        CHECK.is("high floor", beside(0, 50, 1023, 1024, HIGH_FLOOR), 1023);
        CHECK.is("low ceiling", beside(0, 50, -1024, -1023, LOW_CEILING), -1023);
    }

    private static void asTheyAreNow() {
        MoverHall hall = Halls.pair(0, 40, 20, 100);
        hall.begin(1, 1);
        hall.ticks(2);
        CHECK.is("high floor as the lift sinks", hall.of(0, HIGH_FLOOR), 12);
        hall.ticks(1000);
        hall.begin(0, 0);
        hall.ticks(1);
        CHECK.is("low ceiling as the door opens", hall.of(1, LOW_CEILING), 48);
        hall.reset();
        hall.begin(0, 2);
        hall.ticks(3);
        CHECK.is("low floor as it rises", hall.of(1, LOW_FLOOR), 6);
        CHECK.is("low floor of its own, risen", hall.of(0, LOW_FLOOR), 6);
    }
}
