/** Promises 3 and 11; Terms: "NEIGHBOURS are told in pairs". */
public final class JoinTest {
    private static final Check CHECK = new Check();
    private static final int[] NO_SECTOR = {-1, 3, 31, 32, 33, -32, -31, Integer.MIN_VALUE, Integer.MAX_VALUE};

    public static void main(String[] args) {
        toldInPairs();
        noSuchOnes();
        theyAreOne();
        theyAreNeighbours();
        stateStays();
        mostPairs();
        theLastBesideAll();
        areOfNoSuchOnes();
        areOfOne();
        CHECK.done();
    }

    private static MoverHall three() {
        MoverHall hall = new MoverHall();
        for (int i = 0; i < 3; i++) {
            hall.sector(0, 100, 0, 0, 0);
        }
        return hall;
    }

    private static void toldInPairs() {
        MoverHall hall = three();
        CHECK.is("are(0, 1) before", hall.are(0, 1), false);
        CHECK.is("join(0, 1)", hall.join(0, 1), true);
        CHECK.is("join(2, 1)", hall.join(2, 1), true);
        CHECK.is("pairs", hall.look(1), 2);
        CHECK.is("are(0, 1)", hall.are(0, 1), true);
        CHECK.is("are(1, 0)", hall.are(1, 0), true);
        CHECK.is("are(1, 2)", hall.are(1, 2), true);
        CHECK.is("are(2, 1)", hall.are(2, 1), true);
        CHECK.is("are(0, 2)", hall.are(0, 2), false);
        CHECK.is("are(2, 0)", hall.are(2, 0), false);
    }

    /** "false if there are no such ones" */
    private static void noSuchOnes() {
        MoverHall hall = three();
        for (int no : NO_SECTOR) {
            for (int sector = 0; sector < 3; sector++) {
                CHECK.is("join(" + sector + ", " + no + ")", hall.join(sector, no), false);
                CHECK.is("join(" + no + ", " + sector + ")", hall.join(no, sector), false);
            }
            CHECK.is("join(" + no + ", " + no + ")", hall.join(no, no), false);
            CHECK.is("join(" + no + ", 4)", hall.join(no, 4), false);
        }
        CHECK.is("pairs", hall.look(1), 0);
        CHECK.is("join(0, 2), the last", hall.join(0, 2), true);
    }

    /** "they are one" */
    private static void theyAreOne() {
        MoverHall hall = three();
        for (int sector = 0; sector < 3; sector++) {
            CHECK.is("join(" + sector + ", " + sector + ")", hall.join(sector, sector), false);
            CHECK.is("are(" + sector + ", " + sector + ")", hall.are(sector, sector), false);
        }
        CHECK.is("pairs", hall.look(1), 0);
    }

    /** "or they are NEIGHBOURS", told in whatever order */
    private static void theyAreNeighbours() {
        MoverHall hall = three();
        hall.join(0, 1);
        CHECK.is("join(0, 1) again", hall.join(0, 1), false);
        CHECK.is("join(1, 0)", hall.join(1, 0), false);
        CHECK.is("pairs", hall.look(1), 1);
        CHECK.is("are(0, 1)", hall.are(0, 1), true);
        hall.reset();
        CHECK.is("join(1, 0) after reset()", hall.join(1, 0), false);
    }

    /** "(THE STATE stays.)" */
    private static void stateStays() {
        MoverHall hall = three();
        hall.begin(0, 0);
        hall.begin(1, 2);
        hall.enter(1);
        hall.ticks(24);
        hall.join(0, 2);
        CHECK.is("ticks", hall.look(2), 24);
        CHECK.is("movers", hall.look(3), 1);
        CHECK.is("guest", hall.look(4), 1);
        CHECK.is("ceiling", hall.of(0, 1), 76);
        CHECK.is("way", hall.of(0, 4), -1);
        CHECK.is("top", hall.of(0, 9), 100);
    }

    /** All that 512 calls can join: 31 SECTORS, each beside each. */
    private static void mostPairs() {
        MoverHall hall = new MoverHall();
        for (int i = 0; i < 31; i++) {
            hall.sector(i, 100, 0, 0, 0);
        }
        for (int a = 0; a < 31; a++) {
            for (int b = 0; b < a; b++) {
                CHECK.is("join(" + a + ", " + b + ")", hall.join(a, b), true);
            }
        }
        CHECK.is("pairs", hall.look(1), 31 * 30 / 2);
        CHECK.is("low floor of 30", hall.of(30, 6), 0);
        CHECK.is("high floor of 0", hall.of(0, 7), 30);
        CHECK.is("join(0, 30)", hall.join(0, 30), false);
    }

    private static void theLastBesideAll() {
        MoverHall hall = new MoverHall();
        for (int i = 0; i < 32; i++) {
            hall.sector(i, 100 - i, 0, 0, 0);
        }
        for (int i = 0; i < 31; i++) {
            CHECK.is("join(31, " + i + ")", hall.join(31, i), true);
        }
        CHECK.is("join(31, 31)", hall.join(31, 31), false);
        CHECK.is("join(31, 32)", hall.join(31, 32), false);
        for (int i = 0; i < 32; i++) {
            CHECK.is("are(" + i + ", 31)", hall.are(i, 31), i != 31);
            CHECK.is("are(31, " + i + ")", hall.are(31, i), i != 31);
            CHECK.is("are(0, " + i + ")", hall.are(0, i), i == 31);
        }
        CHECK.is("pairs", hall.look(1), 31);
    }

    /** Promise 11: "false if there are no such ones", though 32 and -32 leave 0 when divided by 32. */
    private static void areOfNoSuchOnes() {
        MoverHall hall = three();
        hall.join(0, 1);
        hall.join(1, 2);
        for (int no : NO_SECTOR) {
            for (int sector = 0; sector < 3; sector++) {
                CHECK.is("are(" + sector + ", " + no + ")", hall.are(sector, no), false);
                CHECK.is("are(" + no + ", " + sector + ")", hall.are(no, sector), false);
            }
            CHECK.is("are(" + no + ", " + no + ")", hall.are(no, no), false);
        }
    }

    /** A SECTOR is not its own NEIGHBOUR, whatever others it has. */
    private static void areOfOne() {
        MoverHall hall = three();
        hall.join(0, 1);
        hall.join(0, 2);
        CHECK.is("are(0, 0)", hall.are(0, 0), false);
    }
}
