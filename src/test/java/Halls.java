/** Halls that several tests begin with, and a picture of all that a hall tells. */
final class Halls {
    private Halls() {
    }

    /** SECTOR 1 is a shut door between 0 and 2 (LOW CEILING 100); 3 is a pit beside 2. */
    static MoverHall fourRooms() {
        MoverHall hall = new MoverHall();
        hall.sector(0, 100, 10, 0, 7);
        hall.sector(0, 4, 15, 1, 7);
        hall.sector(24, 120, 9, 2, 9);
        hall.sector(-40, 90, 8, 3, 9);
        hall.join(0, 1);
        hall.join(1, 2);
        hall.join(2, 3);
        return hall;
    }

    /** SECTOR 0 has the given FLOOR and CEILING; SECTOR 1 is its only NEIGHBOUR. */
    static MoverHall pair(int floor, int ceiling, int otherFloor, int otherCeiling) {
        MoverHall hall = new MoverHall();
        hall.sector(floor, ceiling, 15, 0, 0);
        hall.sector(otherFloor, otherCeiling, 15, 0, 1);
        hall.join(0, 1);
        return hall;
    }

    static MoverHall alone(int floor, int ceiling) {
        MoverHall hall = new MoverHall();
        hall.sector(floor, ceiling, 15, 0, 0);
        return hall;
    }

    /** 32 SECTORS without NEIGHBOURS, all of TAG 5. */
    static MoverHall full() {
        MoverHall hall = new MoverHall();
        for (int i = 0; i < 32; i++) {
            hall.sector(i, i + 100, i % 16, i % 4, 5);
        }
        return hall;
    }

    /** These are many calls, and count among the 512 of the document: LastCallsTest, which needs those, takes none. */
    static String picture(MoverHall hall) {
        StringBuilder text = new StringBuilder();
        for (int which = 0; which < 6; which++) {
            text.append(hall.look(which)).append(' ');
        }
        int sectors = hall.look(0);
        for (int a = 0; a < sectors; a++) {
            text.append('\n');
            for (int what = 0; what < 10; what++) {
                text.append(hall.of(a, what)).append(' ');
            }
            for (int b = 0; b < sectors; b++) {
                text.append(hall.are(a, b) ? 'n' : '.').append(hall.open(a, b) ? 'o' : '.');
            }
        }
        return text.toString();
    }
}
