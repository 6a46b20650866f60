import java.nio.charset.StandardCharsets;

/** Promises 2 and 3: feed and end. */
public final class TapeTest {
    private TapeTest() {
    }

    public static void main(String[] args) {
        lengths();
        highestByteFirst();
        endsAndFeedsOn();
        usedUp();
        Check.finish();
    }

    private static void lengths() {
        PostHouse house = new PostHouse();
        Check.due("end(0) of a new tape", house.end(0), true);
        Check.due("end(1) of a new tape", house.end(1), false);
        Check.due("end(-1)", house.end(-1), false);
        Check.due("end(least)", house.end(Integer.MIN_VALUE), false);
        for (int i = 1; i <= 20; i++) {
            Check.due("feed " + i, house.feed(-1, 0, 1, Integer.MIN_VALUE, Integer.MAX_VALUE), 20 * i);
        }
        Check.due("feed behind 400", house.feed(0, 0, 0, 0, 0), -1);
        Check.due("end(401)", house.end(401), false);
        Check.due("end(400)", house.end(400), true);
        Check.due("end(381)", house.end(381), true);
        Check.due("feed behind 381", house.feed(0, 0, 0, 0, 0), -1);
        Check.due("end(382) behind a feed that did not come", house.end(382), false);
        Check.due("end(380)", house.end(380), true);
        Check.due("feed behind 380", house.feed(0, 0, 0, 0, 0), 400);
        Check.due("end(0)", house.end(0), true);
        Check.due("feed behind 0", house.feed(0, 0, 0, 0, 0), 20);
    }

    private static void highestByteFirst() {
        PostHouse house = new PostHouse();
        byte[] bytes = "behind 12;post 3456;".getBytes(StandardCharsets.ISO_8859_1);
        Check.due("feed", house.feed(0x62656869, 0x6e642031, 0x323b706f, 0x73742033, 0x3435363b), 20);
        Check.due("word", Check.word(bytes, 0), 0x62656869);
        house.end(19);
        Check.due("rules()", house.rules(), 2);
        Check.due("says(0)", house.says(0), 12);
        Check.due("says(1)", house.says(1), 3456);
    }

    private static void endsAndFeedsOn() {
        PostHouse house = new PostHouse();
        Check.tape(house, "back 1");
        house.feed(0x323b6672, 0x65652035, 0, 0, 0);
        house.end(14);
        Check.due("rules() of two feeds", house.rules(), 2);
        Check.due("says(3)", house.says(3), 12);
        Check.due("says(2)", house.says(2), 5);
    }

    private static void usedUp() {
        PostHouse house = new PostHouse();
        Check.tape(house, "post 1");
        house.rules();
        Check.due("end(1) behind rules()", house.end(1), false);
        Check.tape(house, "1234 x 1 sum 5");
        house.letter();
        Check.due("end(1) behind letter()", house.end(1), false);
        Check.due("feed behind letter()", house.feed(0, 0, 0, 0, 0), 20);
        Check.dueThrow("letter() of zeros", IllegalArgumentException.class, house::letter);
        Check.due("feed behind a wrong letter()", house.feed(0, 0, 0, 0, 0), 20);
        Check.dueThrow("rules() of zeros", IllegalArgumentException.class, house::rules);
        Check.due("feed behind wrong rules()", house.feed(0, 0, 0, 0, 0), 20);
    }
}
