/** "An object is used for at most 512 calls after it has been made": the 512th is answered as the first is. */
public final class LastCallsTest {
    private static final Check CHECK = new Check();
    private static final int CALLS = 512;

    public static void main(String[] args) {
        mostTicks();
        mostJoins();
        mostSectors();
        mostStarts();
        CHECK.done();
    }

    private static void mostTicks() {
        MoverHall hall = new MoverHall();
        for (int call = 1; call <= CALLS; call++) {
            CHECK.is("call " + call, hall.ticks(1000), call * 1000);
        }
    }

    /** 32 SECTORS, and as many pairs as 480 calls can tell. */
    private static void mostJoins() {
        MoverHall hall = Halls.full();
        int calls = 32;
        for (int a = 31; a > 0; a--) {
            for (int b = 0; b < a && calls < CALLS; b++) {
                calls++;
                CHECK.is("join(" + a + ", " + b + ")", hall.join(a, b), true);
            }
        }
        CHECK.is("calls", calls, CALLS);
    }

    private static void mostSectors() {
        MoverHall hall = new MoverHall();
        for (int call = 1; call <= CALLS; call++) {
            if (call % 33 == 0) {
                hall.clear();
            } else {
                CHECK.is("call " + call, hall.sector(0, 100, 0, 0, 0), call % 33 - 1);
            }
        }
    }

    /** A DOOR that waits is started anew by every second call. */
    private static void mostStarts() {
        MoverHall hall = Halls.alone(0, 100);
        hall.begin(0, 0);
        for (int call = 3; call < CALLS; call += 2) {
            CHECK.is("call " + call, hall.ticks(1), (call - 1) / 2);
            CHECK.is("call " + (call + 1), hall.begin(0, 0), true);
        }
    }
}
