import java.util.Random;

/** Runs of 512 calls with all sorts of arguments: none throws, and what is refused changes nothing. */
public final class WildCallsTest {
    private static final Check CHECK = new Check();
    private static final int[] ODD = {
        -1, 0, 1, 2, 3, 4, 31, 32, 33, 255, 256, 1000, 1001, -1024, 1024, Integer.MIN_VALUE, Integer.MAX_VALUE
    };

    public static void main(String[] args) {
        for (int seed = 0; seed < 300; seed++) {
            run(new Random(seed));
        }
        CHECK.done();
    }

    private static void run(Random random) {
        MoverHall hall = new MoverHall();
        for (int call = 0; call < 512; call++) {
            String before = Halls.picture(hall);
            boolean refused = wildCall(hall, random);
            if (refused) {
                CHECK.is("nothing changed", Halls.picture(hall), before);
            }
            heightsFit(hall);
        }
    }

    /** Whether the call answered false or NONE. */
    private static boolean wildCall(MoverHall hall, Random random) {
        switch (random.nextInt(60)) {
            case 0:
                hall.reset();
                return false;
            case 1:
                hall.clear();
                return false;
            case 2: case 3: case 4: case 5:
                int floor = random.nextInt(200) - 100;
                return hall.sector(floor, floor + random.nextInt(150), random.nextInt(17), random.nextInt(5),
                        random.nextInt(4)) == MoverHall.NONE;
            case 6:
                return hall.sector(odd(random), odd(random), odd(random), odd(random), odd(random)) == MoverHall.NONE;
            case 7:
                return !hall.join(odd(random), odd(random));
            case 8:
                return !hall.begin(odd(random), odd(random));
            case 9:
                return hall.tag(odd(random), odd(random)) == MoverHall.NONE;
            case 10:
                return !hall.enter(odd(random));
            case 11:
                return hall.ticks(odd(random)) == MoverHall.NONE;
            case 12:
                hall.of(odd(random), odd(random));
                hall.are(odd(random), odd(random));
                hall.open(odd(random), odd(random));
                hall.look(odd(random));
                return false;
            default:
                return tameCall(hall, random);
        }
    }

    private static boolean tameCall(MoverHall hall, Random random) {
        int most = hall.look(0) + 1;
        switch (random.nextInt(5)) {
            case 0: return !hall.join(random.nextInt(most), random.nextInt(most));
            case 1: return !hall.begin(random.nextInt(most), random.nextInt(4));
            case 2: return hall.tag(random.nextInt(5), random.nextInt(4)) == MoverHall.NONE;
            case 3: return !hall.enter(random.nextInt(most));
            default: return hall.ticks(random.nextInt(30)) == MoverHall.NONE;
        }
    }

    private static int odd(Random random) {
        return ODD[random.nextInt(ODD.length)];
    }

    private static void heightsFit(MoverHall hall) {
        int movers = 0;
        for (int i = 0; i < hall.look(0); i++) {
            CHECK.is("floor is not above ceiling", hall.of(i, 0) <= hall.of(i, 1), true);
            movers += hall.of(i, 3) == MoverHall.NONE ? 0 : 1;
        }
        CHECK.is("movers", hall.look(3), movers);
    }
}
