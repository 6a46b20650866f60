/** Promises 23 and 24: foretold and count. */
public final class ForetoldTest {
    private static final int LEAST = Integer.MIN_VALUE;
    private static final int MOST = Integer.MAX_VALUE;

    private ForetoldTest() {
    }

    public static void main(String[] args) {
        salesByDays();
        wholeAndBought();
        mostOfAll();
        exceptions();
        counts();
        Check.finish();
    }

    private static PostHouse house() {
        PostHouse house = new PostHouse();
        for (int i = 0; i < 3; i++) {
            house.thing(1000 + i, 1, 0, 1 + i);
            house.price(i, 10, 0, 999);
        }
        Check.rules(house, "post 0");
        return house;
    }

    private static void salesByDays() {
        PostHouse house = house();
        house.days(2);
        Check.letter(house, "1000 x 1 sum 10");
        house.days(1);
        Check.letter(house, "1000 x 2,1001 x 50,1000 x 4 sum 560");
        house.days(13);
        Check.letter(house, "1000 x 8 sum 80");
        house.days(1);
        Check.letter(house, "1000 x 16 sum 160");
        int[][] due = {{0, 7}, {1, 7}, {2, 7}, {3, 14}, {4, 24}, {16, 24}, {17, 16}, {18, 0}, {999, 0}};
        for (int[] d : due) {
            Check.due("SALES from " + d[0], house.foretold(0, d[0], 1000, 1, 0), d[1]);
        }
        Check.due("SALES of another", house.foretold(1, 0, 1, 1, 0), 50);
        Check.due("SALES of none", house.foretold(2, 0, 1, 1, 0), 0);
        Check.due("WHOLE of none", house.foretold(2, 0, 1, 1, 1), 0);
        Check.due("BOUGHT of none", house.foretold(2, 0, 1, 1, 2), 0);
        house.days(50);
        Check.due("what was cancelled counts", house.foretold(0, 3, 1000, 1, 0), 14);
    }

    private static void wholeAndBought() {
        PostHouse house = house();
        Check.letter(house, "1000 x 10 sum 100");
        Check.due("WHOLE of all", house.foretold(0, 0, 1000, 1, 1), 10);
        Check.due("BOUGHT of all", house.foretold(0, 0, 1000, 1, 2), 0);
        Check.due("WHOLE rounded up", house.foretold(0, 0, 999, 1, 1), 11);
        Check.due("BOUGHT rounded up", house.foretold(0, 0, 999, 1, 2), 1);
        Check.due("a lot of 1000", house.foretold(0, 0, 999, 1000, 2), 1000);
        Check.due("WHOLE by 300", house.foretold(0, 0, 300, 1, 1), 34);
        Check.due("BOUGHT by 300", house.foretold(0, 0, 300, 1, 2), 24);
        Check.due("just a whole lot", house.foretold(0, 0, 300, 12, 2), 24);
        Check.due("lots of 7", house.foretold(0, 0, 300, 7, 2), 28);
        house.coming(0, 1, 13);
        house.coming(0, 2, 4);
        house.coming(1, 2, 400);
        Check.due("less COMING of it", house.foretold(0, 0, 300, 1, 2), 7);
        house.days(1);
        Check.due("less STOCK and COMING", house.foretold(0, 0, 300, 1, 2), 24 - 3 - 4);
        Check.due("lots of 9", house.foretold(0, 0, 300, 9, 2), 18);
        house.coming(0, 3, 17);
        Check.due("nothing is missing", house.foretold(0, 0, 300, 9, 2), 0);
        house.coming(0, 3, 1000);
        Check.due("never below 0", house.foretold(0, 0, 300, 9, 2), 0);
        Check.due("never below 0, by ones", house.foretold(0, 0, 300, 1, 2), 0);
    }

    private static void mostOfAll() {
        PostHouse house = house();
        String line = "1000x99";
        String letter = String.join(",", line, line, line, line, line, line, line, line) + "sum7920";
        for (int i = 0; i < 60; i++) {
            Check.letter(house, letter);
        }
        Check.due("SALES", house.foretold(0, 0, 1, 1, 0), 47520);
        Check.due("WHOLE", house.foretold(0, 0, 1, 1, 1), 47520000);
        Check.due("BOUGHT", house.foretold(0, 0, 1, 1, 2), 47472480);
        Check.due("BOUGHT in lots", house.foretold(0, 0, 1, 1000, 2), 47473000);
        Check.due("count(7)", house.count(7), 475200);
    }

    private static void exceptions() {
        PostHouse house = house();
        int[][] wrong = {{-1, 1, 1}, {1000, 1, 1}, {0, 0, 1}, {0, 1001, 1}, {0, 1, 0}, {0, 1, 1001},
            {LEAST, 1, 1}, {MOST, 1, 1}, {0, LEAST, 1}, {0, MOST, 1}, {0, 1, LEAST}, {0, 1, MOST}};
        for (int[] w : wrong) {
            String call = w[0] + ", " + w[1] + ", " + w[2] + ", ..)";
            Check.dueThrow("foretold(0, " + call, IllegalArgumentException.class,
                    () -> house.foretold(0, w[0], w[1], w[2], 0));
            Check.dueThrow("foretold(0, " + call + " of no what", IllegalArgumentException.class,
                    () -> house.foretold(0, w[0], w[1], w[2], 3));
            Check.dueThrow("foretold(3, " + call, IndexOutOfBoundsException.class,
                    () -> house.foretold(3, w[0], w[1], w[2], 3));
        }
        for (int what : new int[] {-1, 3, LEAST, MOST}) {
            Check.dueThrow("foretold(0, 0, 1, 1, " + what + ")", java.util.NoSuchElementException.class,
                    () -> house.foretold(0, 0, 1, 1, what));
            Check.dueThrow("foretold(-1, 0, 1, 1, " + what + ")", IndexOutOfBoundsException.class,
                    () -> house.foretold(-1, 0, 1, 1, what));
        }
    }

    private static void counts() {
        PostHouse house = house();
        house.coming(0, 5, 3);
        house.coming(1, 6, 4);
        house.days(4);
        Check.letter(house, "1000 x 1 sum 10 money 15");
        Check.letter(house, "1100 x 2 sum 20 money 22");
        Check.letter(house, "9999 x 2 sum 20");
        Check.letter(house, "9999 x 2 sum 20");
        Check.letter(house, "1000 x 2,9999 x 1 sum 22");
        house.settle(0, false);
        house.days(1);
        house.pick(1);
        house.pick(2);
        int[] due = {5, 3, 2, 2, 2, 2, 1, 37, 7, 4};
        for (int what = 0; what < due.length; what++) {
            Check.due("count(" + what + ")", house.count(what), due[what]);
        }
        house.settle(2, true);
        Check.due("count(2) behind settle", house.count(2), 3);
        Check.due("count(3) behind settle", house.count(3), 1);
        Check.due("count(7) behind settle", house.count(7), 59);
        Check.due("count(8) behind settle", house.count(8), 9);
        for (int what : new int[] {-1, 10, LEAST, MOST}) {
            Check.due("count(" + what + ")", house.count(what), -1);
        }
    }
}
