/** Promises 3 and 11. */
public final class JoinTest {
    private static final Check CHECK = new Check();

    public static void main(String[] args) {
        ordinary();
        wrongInputs();
        stateStays();
        everyPair();
        CHECK.done();
    }

    private static MoverHall three() {
        MoverHall hall = new MoverHall();
        for (int i = 0; i < 3; i++) {
            hall.sector(0, 100, 0, 0, 0);
        }
        return hall;
    }

    private static void ordinary() {
        MoverHall hall = three();
        CHECK.is("are(0, 1) before", hall.are(0, 1), false);
        CHECK.is("join(0, 1)", hall.join(0, 1), true);
        CHECK.is("join(0, 1) again", hall.join(0, 1), false);
        CHECK.is("join(1, 0)", hall.join(1, 0), false);
        CHECK.is("join(2, 1)", hall.join(2, 1), true);
        CHECK.is("pairs", hall.look(1), 2);
        CHECK.is("are(0, 1)", hall.are(0, 1), true);
        CHECK.is("are(1, 0)", hall.are(1, 0), true);
        CHECK.is("are(1, 2)", hall.are(1, 2), true);
        CHECK.is("are(0, 2)", hall.are(0, 2), false);
        CHECK.is("are(1, 1)", hall.are(1, 1), false);
    }

    private static void wrongInputs() {
        MoverHall hall = three();
        hall.join(0, 1);
        int[] wrong = {-1, 3, 31, 32, 33, -32, -31, Integer.MIN_VALUE, Integer.MAX_VALUE};
        for (int w : wrong) {
            CHECK.is("join(0, " + w + ")", hall.join(0, w), false);
            CHECK.is("join(" + w + ", 0)", hall.join(w, 0), false);
            CHECK.is("join(" + w + ", " + w + ")", hall.join(w, w), false);
            CHECK.is("are(0, " + w + ")", hall.are(0, w), false);
            CHECK.is("are(" + w + ", 0)", hall.are(w, 0), false);
        }
        CHECK.is("join(2, 2)", hall.join(2, 2), false);
        CHECK.is("pairs", hall.look(1), 1);
    }

    private static void stateStays() {
        MoverHall hall = three();
        hall.begin(0, 0);
        hall.enter(1);
        hall.ticks(4);
        hall.join(0, 2);
        CHECK.is("ticks", hall.look(2), 4);
        CHECK.is("movers", hall.look(3), 1);
        CHECK.is("guest", hall.look(4), 1);
        CHECK.is("wait", hall.of(0, 5), 17);
    }

    private static void everyPair() {
        MoverHall hall = new MoverHall();
        for (int i = 0; i < 32; i++) {
            hall.sector(i, 100 - i, 0, 0, 0);
        }
        for (int i = 0; i < 31; i++) {
            CHECK.is("join(31, " + i + ")", hall.join(31, i), true);
        }
        for (int i = 0; i < 32; i++) {
            CHECK.is("are(" + i + ", 31)", hall.are(i, 31), i != 31);
            CHECK.is("are(31, " + i + ")", hall.are(31, i), i != 31);
            CHECK.is("are(0, " + i + ")", hall.are(0, i), i == 31);
        }
        CHECK.is("pairs", hall.look(1), 31);
        int[] dueOfFirst = {0, 31, 69};
        int[] dueOfLast = {0, 31, 70};
        for (int i = 0; i < 3; i++) {
            CHECK.is("of(0, " + (6 + i) + ")", hall.of(0, 6 + i), dueOfFirst[i]);
            CHECK.is("of(31, " + (6 + i) + ")", hall.of(31, 6 + i), dueOfLast[i]);
        }
    }
}
