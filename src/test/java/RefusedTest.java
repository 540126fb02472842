/** Terms: "What answers false or NONE changes nothing.", in every state that a call may be refused in. */
public final class RefusedTest {
    private static final Check CHECK = new Check();
    private static final int NONE = MoverHall.NONE;
    private static final int STATES = 9;
    private static final int[] NO_SECTOR = {-2, 32, 33, Integer.MIN_VALUE, Integer.MAX_VALUE};

    public static void main(String[] args) {
        statesAreWhatTheyAreMeantToBe();
        for (int state = 0; state < STATES; state++) {
            sectors(state);
            joins(state);
            begins(state);
            tags(state);
            enters(state);
            ticks(state);
            questions(state);
        }
        CHECK.done();
    }

    private static MoverHall inState(int state) {
        switch (state) {
            case 0: return new MoverHall();
            case 1: return Halls.fourRooms();
            case 2: return running(0, 3);
            case 3: return running(3, 20);
            case 4: return running(2, 40);
            case 5: return running(1, 38);
            case 6: return running(NONE, 50);
            case 7: return cleared();
            default: return fullAndRunning();
        }
    }

    /**
     * A DOOR in 1, a LIFT in 2, a RISER in 3. The DOOR waits at 12 and goes down at 32, where THE GUEST in it blocks
     * it at 38; the LIFT waits at 16 and goes up at 46; the RISER ends at 32.
     */
    private static MoverHall running(int guest, int ticks) {
        MoverHall hall = Halls.fourRooms();
        hall.begin(1, 0);
        hall.begin(2, 1);
        hall.begin(3, 2);
        hall.enter(guest);
        hall.ticks(ticks);
        return hall;
    }

    private static void statesAreWhatTheyAreMeantToBe() {
        int[][] ways = {{1, -1, 1}, {0, 0, 1}, {-1, 0, 0}, {1, 0, 0}, {0, 1, 0}};
        for (int i = 0; i < ways.length; i++) {
            for (int sector = 1; sector < 4; sector++) {
                String call = "way of " + sector + " in state " + (2 + i);
                CHECK.is(call, inState(2 + i).of(sector, 4), ways[i][sector - 1]);
            }
        }
        CHECK.is("blocked in state 5", inState(5).look(5), 1);
    }

    private static MoverHall cleared() {
        MoverHall hall = running(1, 50);
        hall.clear();
        hall.ticks(5);
        return hall;
    }

    private static MoverHall fullAndRunning() {
        MoverHall hall = Halls.full();
        hall.join(0, 31);
        hall.begin(0, 2);
        hall.begin(31, 1);
        hall.enter(31);
        hall.ticks(5);
        return hall;
    }

    /** The hall is as one that was never asked, now and on its way on: nothing unseen has changed either. */
    private static void unchanged(int state, MoverHall asked) {
        MoverHall twin = inState(state);
        for (int i = 0; i < 12; i++) {
            CHECK.is("state " + state, Halls.picture(asked), Halls.picture(twin));
            asked.ticks(9);
            twin.ticks(9);
        }
    }

    private static void sectors(int state) {
        MoverHall hall = inState(state);
        CHECK.is("sector(1, 1, ..)", hall.sector(1, 1, 0, 0, 0), NONE);
        CHECK.is("sector(2, 1, ..)", hall.sector(2, 1, 0, 0, 0), NONE);
        CHECK.is("sector(-1025, ..)", hall.sector(-1025, 1, 0, 0, 0), NONE);
        CHECK.is("sector(.., 1025, ..)", hall.sector(1, 1025, 0, 0, 0), NONE);
        CHECK.is("sector(light -1)", hall.sector(1, 2, -1, 0, 0), NONE);
        CHECK.is("sector(light 16)", hall.sector(1, 2, 16, 0, 0), NONE);
        CHECK.is("sector(kind -1)", hall.sector(1, 2, 0, -1, 0), NONE);
        CHECK.is("sector(kind 4)", hall.sector(1, 2, 0, 4, 0), NONE);
        CHECK.is("sector(tag -1)", hall.sector(1, 2, 0, 0, -1), NONE);
        CHECK.is("sector(tag 256)", hall.sector(1, 2, 0, 0, 256), NONE);
        if (hall.look(0) == 32) {
            CHECK.is("a 33rd", hall.sector(1, 2, 0, 0, 0), NONE);
        }
        unchanged(state, hall);
    }

    private static void joins(int state) {
        MoverHall hall = inState(state);
        int sectors = hall.look(0);
        for (int no : NO_SECTOR) {
            CHECK.is("join(0, " + no + ")", hall.join(0, no), false);
            CHECK.is("join(" + no + ", 0)", hall.join(no, 0), false);
        }
        CHECK.is("join(0, -1)", hall.join(0, -1), false);
        CHECK.is("join(" + sectors + ", 0)", hall.join(sectors, 0), false);
        for (int a = 0; a < sectors; a++) {
            for (int b = 0; b < sectors; b++) {
                if (a == b || hall.are(a, b)) {
                    CHECK.is("join(" + a + ", " + b + ")", hall.join(a, b), false);
                }
            }
        }
        unchanged(state, hall);
    }

    private static void begins(int state) {
        MoverHall hall = inState(state);
        int sectors = hall.look(0);
        for (int no : NO_SECTOR) {
            CHECK.is("begin(" + no + ", 0)", hall.begin(no, 0), false);
        }
        CHECK.is("begin(-1, 1)", hall.begin(-1, 1), false);
        CHECK.is("begin(" + sectors + ", 2)", hall.begin(sectors, 2), false);
        for (int sector = 0; sector < sectors; sector++) {
            CHECK.is("begin(" + sector + ", -1)", hall.begin(sector, -1), false);
            CHECK.is("begin(" + sector + ", 3)", hall.begin(sector, 3), false);
            int mover = hall.of(sector, 3);
            boolean mayStartAnew = mover == 0 && hall.of(sector, 4) != 1;
            for (int what = mayStartAnew ? 1 : 0; mover != NONE && what < 3; what++) {
                CHECK.is("begin(" + sector + ", " + what + ")", hall.begin(sector, what), false);
            }
        }
        unchanged(state, hall);
    }

    private static void tags(int state) {
        MoverHall hall = inState(state);
        int[] noTag = {-1, 256, Integer.MIN_VALUE, Integer.MAX_VALUE};
        int[] noMover = {-1, 3, Integer.MIN_VALUE, Integer.MAX_VALUE};
        int[] ownTags = {0, 5, 7, 9, 255};
        for (int tag : noTag) {
            CHECK.is("tag(" + tag + ", 0)", hall.tag(tag, 0), NONE);
        }
        for (int tag : ownTags) {
            for (int what : noMover) {
                CHECK.is("tag(" + tag + ", " + what + ")", hall.tag(tag, what), NONE);
            }
        }
        CHECK.is("tag(100, 0), which no sector has", hall.tag(100, 0), 0);
        unchanged(state, hall);
    }

    private static void enters(int state) {
        MoverHall hall = inState(state);
        for (int no : NO_SECTOR) {
            CHECK.is("enter(" + no + ")", hall.enter(no), false);
        }
        CHECK.is("enter of the first that is none", hall.enter(hall.look(0)), false);
        unchanged(state, hall);
    }

    private static void ticks(int state) {
        MoverHall hall = inState(state);
        int[] wrong = {-1, 1001, Integer.MIN_VALUE, Integer.MAX_VALUE};
        for (int n : wrong) {
            CHECK.is("ticks(" + n + ")", hall.ticks(n), NONE);
        }
        unchanged(state, hall);
    }

    private static void questions(int state) {
        MoverHall hall = inState(state);
        for (int no : NO_SECTOR) {
            CHECK.is("of(" + no + ", 0)", hall.of(no, 0), 100000);
            CHECK.is("are(" + no + ", 0)", hall.are(no, 0), false);
            CHECK.is("open(0, " + no + ")", hall.open(0, no), false);
        }
        CHECK.is("of(0, 10)", hall.of(0, 10), 100000);
        CHECK.is("look(-1)", hall.look(-1), NONE);
        CHECK.is("look(6)", hall.look(6), NONE);
        unchanged(state, hall);
    }
}
