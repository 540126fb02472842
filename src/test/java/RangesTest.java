/**
 * Terms: "SECTORS 0 .. 31 at most have a FLOOR and a CEILING above it (-1024 .. 1024 each), a LIGHT 0 .. 15, a KIND
 * 0 .. 3, and a TAG 0 .. 255"; promise 2: "NONE if one of these is none, ceiling is not above floor, or there are 32".
 */
public final class RangesTest {
    private static final Check CHECK = new Check();
    private static final int FLOOR = 0;
    private static final int CEILING = 1;
    private static final int LIGHT = 2;
    private static final int KIND = 3;
    private static final int TAG = 4;

    public static void main(String[] args) {
        floors();
        ceilings();
        ceilingAboveFloor();
        lights();
        kinds();
        tags();
        allAtTheirLeastAndMost();
        twoWrongAtOnce();
        thirtyTwoSectors();
        fullIsFullForAnySector();
        CHECK.done();
    }

    private static int answer(int[] row) {
        return new MoverHall().sector(row[FLOOR], row[CEILING], row[LIGHT], row[KIND], row[TAG]);
    }

    /** Every value of one argument, far below and far above the range that it has beside the others of the row. */
    private static void range(int place, int least, int most, int... row) {
        for (int value = -3000; value <= 3000; value++) {
            row[place] = value;
            CHECK.is("sector with " + value + " as argument " + place, answer(row),
                    value >= least && value <= most ? 0 : MoverHall.NONE);
        }
        int[] farOff = {Integer.MIN_VALUE, Integer.MIN_VALUE + 1, Integer.MAX_VALUE - 1, Integer.MAX_VALUE};
        for (int value : farOff) {
            row[place] = value;
            CHECK.is("sector with " + value + " as argument " + place, answer(row), MoverHall.NONE);
        }
    }

    /** No FLOOR is 1024: no CEILING would be above it. */
    private static void floors() {
        range(FLOOR, -1024, 1023, 0, 1024, 0, 0, 0);
    }

    private static void ceilings() {
        range(CEILING, -1023, 1024, -1024, 0, 0, 0, 0);
    }

    private static void ceilingAboveFloor() {
        range(CEILING, 51, 1024, 50, 0, 0, 0, 0);
        range(CEILING, 1024, 1024, 1023, 0, 0, 0, 0);
        range(FLOOR, -1024, 49, 0, 50, 0, 0, 0);
        range(FLOOR, -1024, -1024, 0, -1023, 0, 0, 0);
        range(CEILING, 1, 0, 1024, 0, 0, 0, 0);
        range(FLOOR, 1, 0, 0, -1024, 0, 0, 0);
    }

    private static void lights() {
        range(LIGHT, 0, 15, 0, 100, 0, 0, 0);
    }

    private static void kinds() {
        range(KIND, 0, 3, 0, 100, 0, 0, 0);
    }

    private static void tags() {
        range(TAG, 0, 255, 0, 100, 0, 0, 0);
    }

    private static void allAtTheirLeastAndMost() {
        MoverHall hall = new MoverHall();
        CHECK.is("least", hall.sector(-1024, -1023, 0, 0, 0), 0);
        CHECK.is("most", hall.sector(1023, 1024, 15, 3, 255), 1);
        CHECK.is("tallest", hall.sector(-1024, 1024, 15, 3, 255), 2);
        int[][] due = {{-1024, -1023, 0}, {1023, 1024, 15}, {-1024, 1024, 15}};
        for (int i = 0; i < due.length; i++) {
            for (int what = 0; what < 3; what++) {
                CHECK.is("of(" + i + ", " + what + ")", hall.of(i, what), due[i][what]);
            }
        }
        CHECK.is("tag(0, 2)", hall.tag(0, 2), 1);
        CHECK.is("tag(255, 2)", hall.tag(255, 2), 2);
    }

    /** Differences that wrap around must not make a wrong one look right. */
    private static void twoWrongAtOnce() {
        int[][] wrong = {
            {Integer.MIN_VALUE, Integer.MAX_VALUE, 0, 0, 0}, {Integer.MAX_VALUE, Integer.MIN_VALUE, 0, 0, 0},
            {-1025, 1025, 0, 0, 0}, {1025, 1026, 0, 0, 0}, {-1026, -1025, 0, 0, 0}, {100, 0, 16, 0, 0},
            {0, 100, -1, 4, 0}, {0, 100, 0, -1, 256}, {0, 100, 16, 4, -1},
        };
        for (int[] row : wrong) {
            CHECK.is("sector(" + java.util.Arrays.toString(row) + ")", answer(row), MoverHall.NONE);
        }
    }

    private static void thirtyTwoSectors() {
        MoverHall hall = new MoverHall();
        for (int i = 0; i < 32; i++) {
            CHECK.is("look(0)", hall.look(0), i);
            CHECK.is("of(" + i + ", 0) before", hall.of(i, 0), 100000);
            CHECK.is("sector " + i, hall.sector(i, i + 100, 0, 0, i), i);
            CHECK.is("of(" + i + ", 0)", hall.of(i, 0), i);
        }
        CHECK.is("a 33rd", hall.sector(0, 100, 0, 0, 0), MoverHall.NONE);
        CHECK.is("look(0)", hall.look(0), 32);
        CHECK.is("of(31, 1)", hall.of(31, 1), 131);
        CHECK.is("of(32, 1)", hall.of(32, 1), 100000);
    }

    private static void fullIsFullForAnySector() {
        MoverHall hall = Halls.full();
        hall.ticks(7);
        String before = Halls.picture(hall);
        for (int i = 0; i < 40; i++) {
            CHECK.is("one too many", hall.sector(i, i + 1, 0, 0, 0), MoverHall.NONE);
            CHECK.is("one too many, and wrong", hall.sector(i, i, 0, 0, 0), MoverHall.NONE);
        }
        CHECK.is("nothing changed", Halls.picture(hall), before);
    }
}
