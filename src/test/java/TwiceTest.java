import java.util.Random;

/** Runs of 512 calls, each asked of a MoverHall and of a PlainHall: both answer the same. */
public final class TwiceTest {
    private static final Check CHECK = new Check();
    private static final int CALLS = 512;
    private static final int[] ODD = {
        -2, -1, 3, 4, 10, 16, 32, 255, 256, 1000, 1001, 1024, 1025, -1024, -1025, Integer.MIN_VALUE, Integer.MAX_VALUE
    };

    private final MoverHall hall = new MoverHall();
    private final PlainHall plain = new PlainHall();
    private final Random random;
    private final String run;
    private final int mostSectors;
    private final int spread;

    private TwiceTest(int seed) {
        random = new Random(seed);
        run = "run " + seed + ": ";
        mostSectors = seed % 7 == 0 ? 33 : 2 + seed % 6;
        spread = seed % 3 == 0 ? 1024 : 40 + seed % 100;
    }

    public static void main(String[] args) {
        for (int seed = 0; seed < 2000; seed++) {
            new TwiceTest(seed).go();
        }
        CHECK.done();
    }

    /** First most of THE PLAN, so that the calls after it have something to move. */
    private void go() {
        int calls = 0;
        while (calls < 3 * mostSectors) {
            calls++;
            if (calls <= mostSectors) {
                sector();
            } else {
                join();
            }
        }
        while (calls < CALLS) {
            calls++;
            change(random.nextInt(100));
        }
    }

    private void change(int choice) {
        if (choice < 1) {
            hall.reset();
            plain.reset();
        } else if (choice < 2 && random.nextInt(4) == 0) {
            hall.clear();
            plain.clear();
        } else if (choice < 3) {
            sector();
        } else if (choice < 6) {
            join();
        } else if (choice < 16) {
            begin();
        } else if (choice < 20) {
            tag();
        } else if (choice < 26) {
            enter();
        } else if (choice < 50) {
            ticks();
        } else {
            ask(choice);
        }
    }

    private void ask(int choice) {
        int a = number(mostSectors);
        int b = number(mostSectors);
        if (choice < 84) {
            int what = number(10);
            CHECK.is(run + "of(" + a + ", " + what + ")", hall.of(a, what), plain.of(a, what));
        } else if (choice < 87) {
            CHECK.is(run + "are(" + a + ", " + b + ")", hall.are(a, b), plain.are(a, b));
        } else if (choice < 92) {
            CHECK.is(run + "open(" + a + ", " + b + ")", hall.open(a, b), plain.open(a, b));
        } else {
            int which = number(6);
            CHECK.is(run + "look(" + which + ")", hall.look(which), plain.look(which));
        }
    }

    private void sector() {
        int floor = random.nextInt(20) == 0 ? odd() : random.nextInt(2 * spread + 1) - spread;
        int ceiling = random.nextInt(20) == 0 ? odd() : floor + random.nextInt(spread);
        int light = number(16);
        int kind = number(4);
        int tag = number(3);
        String call = "sector(" + floor + ", " + ceiling + ", " + light + ", " + kind + ", " + tag + ")";
        CHECK.is(run + call, hall.sector(floor, ceiling, light, kind, tag),
                plain.sector(floor, ceiling, light, kind, tag));
    }

    private void join() {
        int a = number(mostSectors);
        int b = number(mostSectors);
        CHECK.is(run + "join(" + a + ", " + b + ")", hall.join(a, b), plain.join(a, b));
    }

    private void begin() {
        int sector = number(mostSectors);
        int what = number(3);
        CHECK.is(run + "begin(" + sector + ", " + what + ")", hall.begin(sector, what), plain.begin(sector, what));
    }

    private void tag() {
        int tag = number(3);
        int what = number(3);
        CHECK.is(run + "tag(" + tag + ", " + what + ")", hall.tag(tag, what), plain.tag(tag, what));
    }

    private void enter() {
        int sector = number(mostSectors + 1) - 1;
        CHECK.is(run + "enter(" + sector + ")", hall.enter(sector), plain.enter(sector));
    }

    private void ticks() {
        int n = random.nextInt(12) == 0 ? number(1001) : number(12);
        CHECK.is(run + "ticks(" + n + ")", hall.ticks(n), plain.ticks(n));
    }

    /** One of 0 .. below - 1, and now and then one at an edge of the document or far off. */
    private int number(int below) {
        return random.nextInt(40) == 0 ? odd() : random.nextInt(below);
    }

    private int odd() {
        return ODD[random.nextInt(ODD.length)];
    }
}
